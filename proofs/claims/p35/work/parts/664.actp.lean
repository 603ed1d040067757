/-! p35: act as a function -/
def rV (c : Nat × Int32 × SpT) : Int32 × SpT := (kV c, c.2.2)
def tx0a (z : SpT) : SpT := pT' z (tL' (pT z) 0)
def txA (z : SpT) (c : Int32) : SpT := (callP z 0 c 0 0).2.2
def tx5 (z : SpT) (y : Int32) : SpT := txA (txA (txA (txA (txA (tx0a z) (85 : Int32)) (110 : Int32)) ((48 : Int32) + (rmJ y (4 : Int32)))) ((48 : Int32) + (rmJ (y / (4 : Int32)) (5 : Int32)))) ((48 : Int32) + (rmJ (y / (32 : Int32)) (9 : Int32)))
def tv5 (z : SpT) (y : Int32) : Int32 := kV (callP (tx0a z) 0 (85 : Int32) 0 0) + kV (callP (txA (tx0a z) (85 : Int32)) 0 (110 : Int32) 0 0) + kV (callP (txA (txA (tx0a z) (85 : Int32)) (110 : Int32)) 0 ((48 : Int32) + (rmJ y (4 : Int32))) 0 0) + kV (callP (txA (txA (txA (tx0a z) (85 : Int32)) (110 : Int32)) ((48 : Int32) + (rmJ y (4 : Int32)))) 0 ((48 : Int32) + (rmJ (y / (4 : Int32)) (5 : Int32))) 0 0) + kV (callP (txA (txA (txA (txA (tx0a z) (85 : Int32)) (110 : Int32)) ((48 : Int32) + (rmJ y (4 : Int32)))) ((48 : Int32) + (rmJ (y / (4 : Int32)) (5 : Int32)))) 0 ((48 : Int32) + (rmJ (y / (32 : Int32)) (9 : Int32))) 0 0)
def actQ (z : SpT) (k : Nat) (u9 v9 h9 y : Int32) : Int32 × SpT := match k with
  | 0 => if 11 < (uN (sU (pN z))) then rV (callP z 15 ((1 : Int32) + (rmJ y (9 : Int32))) (0 : Int32) (0 : Int32)) else if (rmJ (y / (8 : Int32)) (3 : Int32)) = 0 then rV (callP z 7 (rmJ y (3 : Int32)) h9 (7 : Int32)) else rV (callP z 7 (rmJ y (3 : Int32)) h9 (rmJ (y / (32 : Int32)) (8 : Int32)))
  | 1 => if 11 < (uN (sU (pN z))) then rV (callP z 15 ((1 : Int32) + (rmJ y (9 : Int32))) (0 : Int32) (0 : Int32)) else if (rmJ (y / (8 : Int32)) (3 : Int32)) = 0 then rV (callP z 7 (rmJ y (3 : Int32)) h9 (7 : Int32)) else rV (callP z 7 (rmJ y (3 : Int32)) h9 (rmJ (y / (32 : Int32)) (8 : Int32)))
  | 2 => if 11 < (uN (sU (pN z))) then rV (callP z 15 ((1 : Int32) + (rmJ y (9 : Int32))) (0 : Int32) (0 : Int32)) else if (rmJ (y / (8 : Int32)) (3 : Int32)) = 0 then rV (callP z 7 (rmJ y (3 : Int32)) h9 (7 : Int32)) else rV (callP z 7 (rmJ y (3 : Int32)) h9 (rmJ (y / (32 : Int32)) (8 : Int32)))
  | 3 => rV (callP z 8 u9 h9 ((1 : Int32) + (rmJ (y / (2048 : Int32)) (12 : Int32))))
  | 4 => rV (callP z 8 u9 h9 ((1 : Int32) + (rmJ (y / (2048 : Int32)) (12 : Int32))))
  | 5 => rV (callP z 8 u9 h9 ((1 : Int32) + (rmJ (y / (2048 : Int32)) (12 : Int32))))
  | 6 => rV (callP z 9 u9 (0 : Int32) (0 : Int32))
  | 7 => rV (callP z 10 u9 v9 (0 : Int32))
  | 8 => rV (callP z 10 u9 v9 (0 : Int32))
  | 9 => rV (callP z 11 h9 v9 ((1 : Int32) + (rmJ (y / (2048 : Int32)) (12 : Int32))))
  | 10 => rV (callP z 11 h9 v9 ((1 : Int32) + (rmJ (y / (2048 : Int32)) (12 : Int32))))
  | 11 => rV (callP z 12 u9 (0 : Int32) (0 : Int32))
  | 12 => rV (m_X8_settle z h9 (rmJ y (5 : Int32)) (rmJ (y / (16 : Int32)) (3 : Int32)) (rmJ (y / (64 : Int32)) (3 : Int32)))
  | 13 => rV (callP z 14 u9 (rmJ (y / (16 : Int32)) (3 : Int32)) (0 : Int32))
  | 14 => rV (callP z 16 (rmJ y (3 : Int32)) (rmJ (y / (4 : Int32)) (90 : Int32)) (0 : Int32))
  | 15 => rV (callP z 17 (0 : Int32) (0 : Int32) (0 : Int32))
  | 16 => rV (callP z 22 (rmJ y (2 : Int32)) (0 : Int32) (0 : Int32))
  | 17 => rV (callP z 23 (rmJ y (2 : Int32)) (0 : Int32) (0 : Int32))
  | 18 => if rmJ y 64 = 0 then (tv5 z y + kV (callP (tx5 z y) 1 0 0 0), (callP (tx5 z y) 1 0 0 0).2.2) else (tv5 z y + 0, tx5 z y)
  | 19 => rV (callP z 13 u9 v9 (rmJ (y / (256 : Int32)) (3 : Int32)))
  | 20 => rV (callP z 13 u9 v9 (rmJ (y / (256 : Int32)) (3 : Int32)))
  | 21 => rV (callP z 13 u9 v9 (rmJ (y / (256 : Int32)) (3 : Int32)))
  | 22 => rV (callP z 13 u9 v9 (rmJ (y / (256 : Int32)) (3 : Int32)))
  | _ => rV (callP z 13 u9 v9 (rmJ (y / (256 : Int32)) (3 : Int32)))
def actP (z : SpT) (x y : Int32) : Int32 × SpT := actQ z (rmJ x 24).toInt.toNat (if (uN (sU (pN z))) = 0 then 0 else rmJ y (uN (sU (pN z)))) (if (uN (sU (pN z))) = 0 then 0 else rmJ (y / 16) (uN (sU (pN z)))) (rmJ (y / 256) 5) y
section ACTS
variable {T : Int} {z z1 z2 : SpT} {u9 v9 h9 x y : Int32}
theorem sim_rV (h : SIM T z1 z2) (h0 : 100000 ≤ T) (h1 : T ≤ 900000) (k : Nat) (hk : k < 24) (a b c : Int32) : (rV (callP z1 k a b c)).1 = (rV (callP z2 k a b c)).1 ∧ SIM (T + 700) (rV (callP z1 k a b c)).2 (rV (callP z2 k a b c)).2 := by
  have g := sim_call (a := a) (b := b) (c := c) h h0 (by omega) k hk
  exact ⟨g.1, g.2.up (by omega)⟩
theorem sim_settle (h : SIM T z1 z2) (h1 : T ≤ 900000) (a b c d : Int32) : (rV (m_X8_settle z1 a b c d)).1 = (rV (m_X8_settle z2 a b c d)).1 ∧ SIM (T + 700) (rV (m_X8_settle z1 a b c d)).2 (rV (m_X8_settle z2 a b c d)).2 := by
  obtain ⟨mo, A, B⟩ := h
  have g := ag_kV (ag_settle (x1 := a) (x2 := b) (x3 := c) (x4 := d) A (by omega)) (ag_settle (x1 := a) (x2 := b) (x3 := c) (x4 := d) B (by omega)) gES_eb
  exact ⟨g.1, g.2.up (by omega)⟩
theorem sim_tx0 (h : SIM T z1 z2) : SIM (T + 99) (tx0a z1) (tx0a z2) := by
  obtain ⟨mo, A, B⟩ := h
  exact ⟨_, (ag_clearText A).1, (ag_clearText B).1⟩
theorem sim_txA (h : SIM T z1 z2) (h0 : 100000 ≤ T) (h1 : T ≤ 1000000) (c : Int32) : kV (callP z1 0 c 0 0) = kV (callP z2 0 c 0 0) ∧ SIM (T + 99) (txA z1 c) (txA z2 c) := sim_call h h0 h1 0 (by decide)
theorem sim_tx5 (h : SIM T z1 z2) (h0 : 100000 ≤ T) (h1 : T ≤ 900000) (y : Int32) : tv5 z1 y = tv5 z2 y ∧ SIM (T + 600) (tx5 z1 y) (tx5 z2 y) := by
  have a0 := sim_tx0 h
  have a1 := sim_txA a0 (by omega) (by omega) (85 : Int32)
  have a2 := sim_txA a1.2 (by omega) (by omega) (110 : Int32)
  have a3 := sim_txA a2.2 (by omega) (by omega) ((48 : Int32) + (rmJ y (4 : Int32)))
  have a4 := sim_txA a3.2 (by omega) (by omega) ((48 : Int32) + (rmJ (y / (4 : Int32)) (5 : Int32)))
  have a5 := sim_txA a4.2 (by omega) (by omega) ((48 : Int32) + (rmJ (y / (32 : Int32)) (9 : Int32)))
  refine ⟨?_, a5.2.up (by omega)⟩
  unfold tv5
  rw [a1.1, a2.1, a3.1, a4.1, a5.1]
theorem sim_actQ (h : SIM T z1 z2) (h0 : 100000 ≤ T) (h1 : T ≤ 900000) (hn : (uN (sU (pN z1))) = (uN (sU (pN z2)))) : ∀ k : Nat, (actQ z1 k u9 v9 h9 y).1 = (actQ z2 k u9 v9 h9 y).1 ∧ SIM (T + 700) (actQ z1 k u9 v9 h9 y).2 (actQ z2 k u9 v9 h9 y).2 := by
  intro k
  match k with
  | 0 =>
    show (if 11 < (uN (sU (pN z1))) then _ else _ : Int32 × SpT).1 = (if 11 < (uN (sU (pN z2))) then _ else _ : Int32 × SpT).1 ∧ SIM _ (if 11 < (uN (sU (pN z1))) then _ else _ : Int32 × SpT).2 (if 11 < (uN (sU (pN z2))) then _ else _ : Int32 × SpT).2
    rw [← hn]
    by_cases c1 : 11 < (uN (sU (pN z1)))
    · rw [if_pos c1, if_pos c1]
      exact sim_rV h h0 h1 15 (by decide) _ _ _
    · rw [if_neg c1, if_neg c1]
      by_cases c2 : (rmJ (y / (8 : Int32)) (3 : Int32)) = 0
      · rw [if_pos c2, if_pos c2]
        exact sim_rV h h0 h1 7 (by decide) _ _ _
      · rw [if_neg c2, if_neg c2]
        exact sim_rV h h0 h1 7 (by decide) _ _ _
  | 1 =>
    show (if 11 < (uN (sU (pN z1))) then _ else _ : Int32 × SpT).1 = (if 11 < (uN (sU (pN z2))) then _ else _ : Int32 × SpT).1 ∧ SIM _ (if 11 < (uN (sU (pN z1))) then _ else _ : Int32 × SpT).2 (if 11 < (uN (sU (pN z2))) then _ else _ : Int32 × SpT).2
    rw [← hn]
    by_cases c1 : 11 < (uN (sU (pN z1)))
    · rw [if_pos c1, if_pos c1]
      exact sim_rV h h0 h1 15 (by decide) _ _ _
    · rw [if_neg c1, if_neg c1]
      by_cases c2 : (rmJ (y / (8 : Int32)) (3 : Int32)) = 0
      · rw [if_pos c2, if_pos c2]
        exact sim_rV h h0 h1 7 (by decide) _ _ _
      · rw [if_neg c2, if_neg c2]
        exact sim_rV h h0 h1 7 (by decide) _ _ _
  | 2 =>
    show (if 11 < (uN (sU (pN z1))) then _ else _ : Int32 × SpT).1 = (if 11 < (uN (sU (pN z2))) then _ else _ : Int32 × SpT).1 ∧ SIM _ (if 11 < (uN (sU (pN z1))) then _ else _ : Int32 × SpT).2 (if 11 < (uN (sU (pN z2))) then _ else _ : Int32 × SpT).2
    rw [← hn]
    by_cases c1 : 11 < (uN (sU (pN z1)))
    · rw [if_pos c1, if_pos c1]
      exact sim_rV h h0 h1 15 (by decide) _ _ _
    · rw [if_neg c1, if_neg c1]
      by_cases c2 : (rmJ (y / (8 : Int32)) (3 : Int32)) = 0
      · rw [if_pos c2, if_pos c2]
        exact sim_rV h h0 h1 7 (by decide) _ _ _
      · rw [if_neg c2, if_neg c2]
        exact sim_rV h h0 h1 7 (by decide) _ _ _
  | 3 =>
    exact sim_rV h h0 h1 8 (by decide) _ _ _
  | 4 =>
    exact sim_rV h h0 h1 8 (by decide) _ _ _
  | 5 =>
    exact sim_rV h h0 h1 8 (by decide) _ _ _
  | 6 =>
    exact sim_rV h h0 h1 9 (by decide) _ _ _
  | 7 =>
    exact sim_rV h h0 h1 10 (by decide) _ _ _
  | 8 =>
    exact sim_rV h h0 h1 10 (by decide) _ _ _
  | 9 =>
    exact sim_rV h h0 h1 11 (by decide) _ _ _
  | 10 =>
    exact sim_rV h h0 h1 11 (by decide) _ _ _
  | 11 =>
    exact sim_rV h h0 h1 12 (by decide) _ _ _
  | 12 =>
    exact sim_settle h h1 _ _ _ _
  | 13 =>
    exact sim_rV h h0 h1 14 (by decide) _ _ _
  | 14 =>
    exact sim_rV h h0 h1 16 (by decide) _ _ _
  | 15 =>
    exact sim_rV h h0 h1 17 (by decide) _ _ _
  | 16 =>
    exact sim_rV h h0 h1 22 (by decide) _ _ _
  | 17 =>
    exact sim_rV h h0 h1 23 (by decide) _ _ _
  | 18 =>
    have t5 := sim_tx5 h h0 h1 y
    show (if rmJ y 64 = 0 then _ else _ : Int32 × SpT).1 = (if rmJ y 64 = 0 then _ else _ : Int32 × SpT).1 ∧ SIM _ (if rmJ y 64 = 0 then _ else _ : Int32 × SpT).2 (if rmJ y 64 = 0 then _ else _ : Int32 × SpT).2
    by_cases c1 : rmJ y 64 = 0
    · rw [if_pos c1, if_pos c1]
      have g := sim_call (a := 0) (b := 0) (c := 0) t5.2 (by omega) (by omega) 1 (by decide)
      exact ⟨by show tv5 z1 y + _ = tv5 z2 y + _; rw [t5.1, g.1], g.2.up (by omega)⟩
    · rw [if_neg c1, if_neg c1]
      exact ⟨by show tv5 z1 y + 0 = tv5 z2 y + 0; rw [t5.1], t5.2.up (by omega)⟩
  | 19 =>
    exact sim_rV h h0 h1 13 (by decide) _ _ _
  | 20 =>
    exact sim_rV h h0 h1 13 (by decide) _ _ _
  | 21 =>
    exact sim_rV h h0 h1 13 (by decide) _ _ _
  | 22 =>
    exact sim_rV h h0 h1 13 (by decide) _ _ _
  | _ + 23 =>
    exact sim_rV h h0 h1 13 (by decide) _ _ _
theorem sim_actP (h : SIM T z1 z2) (h0 : 100000 ≤ T) (h1 : T ≤ 900000) : (actP z1 x y).1 = (actP z2 x y).1 ∧ SIM (T + 700) (actP z1 x y).2 (actP z2 x y).2 := by
  have hn : (uN (sU (pN z1))) = (uN (sU (pN z2))) := (sim_call (a := 1) (b := 0) (c := 0) h h0 (by omega) 2 (by decide)).1
  unfold actP
  rw [← hn]
  exact sim_actQ h h0 h1 hn _
theorem gs_rV (o : OKz z) (g : GS T z) (h0 : 100000 ≤ T) (h1 : T ≤ 900000) (k : Nat) (hk : k < 24) (a b c : Int32) : GS (T + 700) (rV (callP z k a b c)).2 := (gs_call o g h0 (by omega) k hk).up (by omega)
theorem gs_tx0 (g : GS T z) : GS T (tx0a z) := g
theorem gs_txA (g : GS T z) (c : Int32) : GS T (txA z c) := gs_append (x1 := c) g
theorem gs_tx5 (o : OKz z) (g : GS T z) (y : Int32) : GS T (tx5 z y) := gs_txA (gs_txA (gs_txA (gs_txA (gs_txA (gs_tx0 g) _) _) _) _) _
theorem gs_actQ (o : OKz z) (g : GS T z) (h0 : 100000 ≤ T) (h1 : T ≤ 900000) : ∀ k : Nat, GS (T + 700) (actQ z k u9 v9 h9 y).2 := by
  intro k
  match k with
  | 0 =>
    show GS _ (if 11 < (uN (sU (pN z))) then _ else _ : Int32 × SpT).2
    by_cases c1 : 11 < (uN (sU (pN z)))
    · rw [if_pos c1]
      exact gs_rV o g h0 h1 15 (by decide) _ _ _
    · rw [if_neg c1]
      by_cases c2 : (rmJ (y / (8 : Int32)) (3 : Int32)) = 0
      · rw [if_pos c2]
        exact gs_rV o g h0 h1 7 (by decide) _ _ _
      · rw [if_neg c2]
        exact gs_rV o g h0 h1 7 (by decide) _ _ _
  | 1 =>
    show GS _ (if 11 < (uN (sU (pN z))) then _ else _ : Int32 × SpT).2
    by_cases c1 : 11 < (uN (sU (pN z)))
    · rw [if_pos c1]
      exact gs_rV o g h0 h1 15 (by decide) _ _ _
    · rw [if_neg c1]
      by_cases c2 : (rmJ (y / (8 : Int32)) (3 : Int32)) = 0
      · rw [if_pos c2]
        exact gs_rV o g h0 h1 7 (by decide) _ _ _
      · rw [if_neg c2]
        exact gs_rV o g h0 h1 7 (by decide) _ _ _
  | 2 =>
    show GS _ (if 11 < (uN (sU (pN z))) then _ else _ : Int32 × SpT).2
    by_cases c1 : 11 < (uN (sU (pN z)))
    · rw [if_pos c1]
      exact gs_rV o g h0 h1 15 (by decide) _ _ _
    · rw [if_neg c1]
      by_cases c2 : (rmJ (y / (8 : Int32)) (3 : Int32)) = 0
      · rw [if_pos c2]
        exact gs_rV o g h0 h1 7 (by decide) _ _ _
      · rw [if_neg c2]
        exact gs_rV o g h0 h1 7 (by decide) _ _ _
  | 3 =>
    exact gs_rV o g h0 h1 8 (by decide) _ _ _
  | 4 =>
    exact gs_rV o g h0 h1 8 (by decide) _ _ _
  | 5 =>
    exact gs_rV o g h0 h1 8 (by decide) _ _ _
  | 6 =>
    exact gs_rV o g h0 h1 9 (by decide) _ _ _
  | 7 =>
    exact gs_rV o g h0 h1 10 (by decide) _ _ _
  | 8 =>
    exact gs_rV o g h0 h1 10 (by decide) _ _ _
  | 9 =>
    exact gs_rV o g h0 h1 11 (by decide) _ _ _
  | 10 =>
    exact gs_rV o g h0 h1 11 (by decide) _ _ _
  | 11 =>
    exact gs_rV o g h0 h1 12 (by decide) _ _ _
  | 12 =>
    exact (gs_settle g o (by omega)).up (by omega)
  | 13 =>
    exact gs_rV o g h0 h1 14 (by decide) _ _ _
  | 14 =>
    exact gs_rV o g h0 h1 16 (by decide) _ _ _
  | 15 =>
    exact gs_rV o g h0 h1 17 (by decide) _ _ _
  | 16 =>
    exact gs_rV o g h0 h1 22 (by decide) _ _ _
  | 17 =>
    exact gs_rV o g h0 h1 23 (by decide) _ _ _
  | 18 =>
    have t5 := gs_tx5 o g y
    show GS _ (if rmJ y 64 = 0 then _ else _ : Int32 × SpT).2
    by_cases c1 : rmJ y 64 = 0
    · rw [if_pos c1]
      exact (gs_load t5 (by omega)).up (by omega)
    · rw [if_neg c1]
      exact t5.up (by omega)
  | 19 =>
    exact gs_rV o g h0 h1 13 (by decide) _ _ _
  | 20 =>
    exact gs_rV o g h0 h1 13 (by decide) _ _ _
  | 21 =>
    exact gs_rV o g h0 h1 13 (by decide) _ _ _
  | 22 =>
    exact gs_rV o g h0 h1 13 (by decide) _ _ _
  | _ + 23 =>
    exact gs_rV o g h0 h1 13 (by decide) _ _ _
theorem gs_actP (o : OKz z) (g : GS T z) (h0 : 100000 ≤ T) (h1 : T ≤ 900000) : GS (T + 700) (actP z x y).2 := gs_actQ o g h0 h1 _
end ACTS
