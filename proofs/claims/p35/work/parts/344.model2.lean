def m_X9_partsOwed_L23 : Nat → (Nat → Int32) → Int32 → Int32 → Int32 → Int32 → Int32 → Int32 → Int32 × Int32
  | 0, _, _, _, _, _, _, _ => (0, 0)
  | nF + 1, r, x1, x2, h, o, n, k => if (9 : Int32) ≤ k then (n, k) else if x1 = (-1 : Int32) then if x2 = (-1 : Int32) then m_X9_partsOwed_L23 nF r x1 x2 h o (n + (r ((m_X9_owedAt h o (0 : Int32) (0 : Int32)) + k).toNatClampNeg)) (k + (1 : Int32)) else if x2 = o then m_X9_partsOwed_L23 nF r x1 x2 h o (n + (r ((m_X9_owedAt h o (0 : Int32) (0 : Int32)) + k).toNatClampNeg)) (k + (1 : Int32)) else (n, k) else if x1 = h then if x2 = (-1 : Int32) then m_X9_partsOwed_L23 nF r x1 x2 h o (n + (r ((m_X9_owedAt h o (0 : Int32) (0 : Int32)) + k).toNatClampNeg)) (k + (1 : Int32)) else if x2 = o then m_X9_partsOwed_L23 nF r x1 x2 h o (n + (r ((m_X9_owedAt h o (0 : Int32) (0 : Int32)) + k).toNatClampNeg)) (k + (1 : Int32)) else (n, k) else (n, k)
def m_X9_partsOwed_L14 : Nat → (Nat → Int32) → Int32 → Int32 → Int32 → Int32 → Int32 → Int32 × Int32
  | 0, _, _, _, _, _, _ => (0, 0)
  | nF + 1, r, x1, x2, h, n, o => if (5 : Int32) ≤ o then (n, o) else m_X9_partsOwed_L14 nF r x1 x2 h (m_X9_partsOwed_L23 100 r x1 x2 h o n (0 : Int32)).1 (o + (1 : Int32))
def m_X9_partsOwed_L5 : Nat → (Nat → Int32) → Int32 → Int32 → Int32 → Int32 → Int32
  | 0, _, _, _, _, _ => 0
  | nF + 1, r, x1, x2, n, h => if (5 : Int32) ≤ h then n else m_X9_partsOwed_L5 nF r x1 x2 (m_X9_partsOwed_L14 100 r x1 x2 h n (0 : Int32)).1 (h + (1 : Int32))
def m_X9_partsOwed (r : (Nat → Int32)) (x1 : Int32) (x2 : Int32) : Int32 := m_X9_partsOwed_L5 100 r x1 x2 (0 : Int32) (0 : Int32)
def m_X9_completeOn_L18 : Nat → (Nat → Int32) → Int32 → Int32 → Int32 → Int32 → Int32 → Int32 → Int32 × Int32
  | 0, _, _, _, _, _, _, _ => (0, 0)
  | nF + 1, r, x1, x2, le, pp, n, u => if (r (1 : Int32).toNatClampNeg) ≤ u then (n, u) else if (m_X9_isAt r u x1 x2) = (0 : Int32) then m_X9_completeOn_L18 nF r x1 x2 le pp (n + (0 : Int32)) (u + (1 : Int32)) else if pp = (3 : Int32) then m_X9_completeOn_L18 nF r x1 x2 le pp (n + (1 : Int32)) (u + (1 : Int32)) else if (((m_X9_of r u (3 : Int32)) >>> (pp &&& (31 : Int32))) &&& (1 : Int32)) = (1 : Int32) then m_X9_completeOn_L18 nF r x1 x2 le pp (n + (1 : Int32)) (u + (1 : Int32)) else m_X9_completeOn_L18 nF r x1 x2 le pp (n + (0 : Int32)) (u + (1 : Int32))
def m_X9_completeOn_L6 : Nat → (Nat → Int32) → Int32 → Int32 → Int32 → Int32 → Int32
  | 0, _, _, _, _, _ => 0
  | nF + 1, r, x1, x2, le, pp => if (3 : Int32) < pp then le else if le ≤ (m_X9_completeOn_L18 100 r x1 x2 le pp (0 : Int32) (0 : Int32)).1 then m_X9_completeOn_L6 nF r x1 x2 le (pp + (1 : Int32)) else m_X9_completeOn_L6 nF r x1 x2 (m_X9_completeOn_L18 100 r x1 x2 le pp (0 : Int32) (0 : Int32)).1 (pp + (1 : Int32))
def m_X9_completeOn (r : (Nat → Int32)) (x1 : Int32) (x2 : Int32) : Int32 := m_X9_completeOn_L6 100 r x1 x2 (16 : Int32) (0 : Int32)
def m_X9_copyState_L3 : Nat → (Nat → Int32) → (Nat → Int32) → Int32 → Int32 → Int32 → (Nat → Int32)
  | 0, _, r, _, _, _ => r
  | nF + 1, ff, r, x1, x2, k => if (383 : Int32) ≤ k then r else m_X9_copyState_L3 nF ff (upd r (x2 + k).toNatClampNeg (ff (x1 + k).toNatClampNeg)) x1 x2 (k + (1 : Int32))
def m_X9_copyState (ff : (Nat → Int32)) (g : (Nat → Int32)) (x1 : Int32) (x2 : Int32) : (Nat → Int32) := m_X9_copyState_L3 1000 ff g x1 x2 (0 : Int32)
def m_X9_deliverOn_L65 : Nat → (Nat → Int32) → Int32 → (Nat → Int32) → Int32 → Int32 × (Nat → Int32)
  | 0, _, _, rr, _ => (0, rr)
  | nF + 1, r, x1, rr, i => if (((m_X9_coresAt (m_X9_of r x1 (1 : Int32))) + (1 : Int32)) + ((2 : Int32) * (rr (m_X9_coresAt (m_X9_of r x1 (1 : Int32))).toNatClampNeg))) ≤ i then ((m_X9_priceOf r x1) + (m_X9_late r (r (((m_X9_coresAt (m_X9_of r x1 (1 : Int32))) + (2 : Int32)) + ((2 : Int32) * (m_X9_oldest r (m_X9_of r x1 (1 : Int32)) (m_X9_of r x1 (0 : Int32))))).toNatClampNeg) (0 : Int32)), m_X9_pays (m_X9_give (upd (upd rr (((m_X9_coresAt (m_X9_of r x1 (1 : Int32))) + (1 : Int32)) + ((2 : Int32) * (rr (m_X9_coresAt (m_X9_of r x1 (1 : Int32))).toNatClampNeg))).toNatClampNeg (0 : Int32)) (((m_X9_coresAt (m_X9_of r x1 (1 : Int32))) + (2 : Int32)) + ((2 : Int32) * ((upd rr (((m_X9_coresAt (m_X9_of r x1 (1 : Int32))) + (1 : Int32)) + ((2 : Int32) * (rr (m_X9_coresAt (m_X9_of r x1 (1 : Int32))).toNatClampNeg))).toNatClampNeg (0 : Int32)) (m_X9_coresAt (m_X9_of r x1 (1 : Int32))).toNatClampNeg))).toNatClampNeg (0 : Int32)) x1 (4 : Int32)) (m_X9_of r x1 (1 : Int32)) (4 : Int32) ((m_X9_priceOf r x1) + (m_X9_late r (r (((m_X9_coresAt (m_X9_of r x1 (1 : Int32))) + (2 : Int32)) + ((2 : Int32) * (m_X9_oldest r (m_X9_of r x1 (1 : Int32)) (m_X9_of r x1 (0 : Int32))))).toNatClampNeg) (0 : Int32)))) else m_X9_deliverOn_L65 nF r x1 (upd rr i.toNatClampNeg (rr (i + (2 : Int32)).toNatClampNeg)) (i + (1 : Int32))
def m_X9_deliverOn (r : (Nat → Int32)) (x1 : Int32) : Int32 × (Nat → Int32) := m_X9_deliverOn_L65 1000 r x1 (upd r (m_X9_coresAt (m_X9_of r x1 (1 : Int32))).toNatClampNeg ((r (m_X9_coresAt (m_X9_of r x1 (1 : Int32))).toNatClampNeg) - (1 : Int32))) (((m_X9_coresAt (m_X9_of r x1 (1 : Int32))) + (1 : Int32)) + ((2 : Int32) * (m_X9_oldest r (m_X9_of r x1 (1 : Int32)) (m_X9_of r x1 (0 : Int32)))))
def m_X9_thrown (mo : MoT) : Int32 := mR mo
theorem iv_ne120 {x : Int32} (h : iv 0 120 x) (c : ¬ x = 120) : iv 0 119 x := by
  have h5 : ¬ x.toInt = 120 := fun q => c (Int32.toInt_inj.mp (by rw [q]; decide))
  exact ⟨h.1, by have := h.2; omega⟩
def m_X9_refused (mo : MoT) (x1 : Int32) : Int32 × MoT := (if x1 ≤ (0 : Int32) then (0 : Int32) else (1 : Int32), mR' mo x1)
theorem rf_lit0 (mo : MoT) : (m_X9_refused mo 0).1 = 0 := by
  rw [m_X9_refused]
  show (if (0 : Int32) ≤ 0 then (0 : Int32) else 1) = 0
  decide
theorem rf_lit1 (mo : MoT) : ¬ (m_X9_refused mo 1).1 = 0 := by
  rw [m_X9_refused]
  show ¬ (if (1 : Int32) ≤ 0 then (0 : Int32) else 1) = 0
  decide
theorem rf_lit2 (mo : MoT) : ¬ (m_X9_refused mo 2).1 = 0 := by
  rw [m_X9_refused]
  show ¬ (if (2 : Int32) ≤ 0 then (0 : Int32) else 1) = 0
  decide
theorem rf_zero {mo : MoT} {w : Int32} (hw : 0 ≤ w.toInt) (c : (m_X9_refused mo w).1 = 0) : w = 0 := by
  rw [m_X9_refused] at c
  dsimp only at c
  split at c
  · rename_i h
    rw [i32_le, i32_0] at h
    exact Int32.toInt_inj.mp (by rw [i32_0]; omega)
  · exact absurd c (by decide)
theorem iv_ne14 {x : Int32} (h : iv 0 14 x) (c : ¬ x = 14) : iv 0 13 x := by
  have h5 : ¬ x.toInt = 14 := fun q => c (Int32.toInt_inj.mp (by rw [q]; decide))
  exact ⟨h.1, by have := h.2; omega⟩
theorem iv_ne0 {x : Int32} {u : Int} (h : iv 0 u x) (c : ¬ x = 0) : iv 1 u x := by
  have h5 : ¬ x.toInt = 0 := fun q => c (Int32.toInt_inj.mp (by rw [q]; decide))
  exact ⟨by have := h.1; omega, h.2⟩
theorem iv_eq {x y : Int32} {v : Int} (c : x = y) (h : y.toInt = v) : iv v v x := by subst c; exact iv_lit h
theorem iv_cut {x B : Int32} {l u h : Int} (a : iv l u x) (c : x < B) (e : B.toInt = h + 1) : iv l h x := by
  rw [i32_lt] at c
  exact ⟨a.1, by omega⟩
theorem iv_cut2 {x B : Int32} {l u h : Int} (a : iv l u x) (c : ¬ B ≤ x) (e : B.toInt = h + 1) : iv l h x := by
  rw [i32_le] at c
  exact ⟨a.1, by omega⟩
theorem iv_nlt {x : Int32} (c : 0 ≤ x) : ¬ x < 0 := by
  rw [i32_le, i32_0] at c
  rw [i32_lt, i32_0]
  omega
theorem iv_lu {x B : Int32} {l u h : Int} (c1 : ¬ x < 0) (c2 : ¬ B ≤ x) (hB : iv l u B) (e : h = u - 1) : iv 0 h x := by
  rw [i32_lt, i32_0] at c1
  rw [i32_le] at c2
  have := hB.2
  exact ⟨by omega, by omega⟩
theorem iv_lu2 {x B : Int32} {l u h : Int} (c1 : ¬ x < 0) (c2 : x < B) (hB : iv l u B) (e : h = u - 1) : iv 0 h x := by
  rw [i32_lt, i32_0] at c1
  rw [i32_lt] at c2
  have := hB.2
  exact ⟨by omega, by omega⟩
