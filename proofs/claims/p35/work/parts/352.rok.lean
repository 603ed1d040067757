/-! the reference's numbers stay in their ranges -/
theorem iv_0 : iv 0 0 (0 : Int32) := iv_lit (v := 0) (by decide)
theorem iv_w0 : iv 0 4 (0 : Int32) := iv_wide iv_0 (by decide)
theorem iv_w1 : iv 0 4 (1 : Int32) := iv_wide (iv_lit (v := 1) (by decide)) (by decide)
theorem iv_w2 : iv 0 4 (2 : Int32) := iv_wide (iv_lit (v := 2) (by decide)) (by decide)
theorem iv_w3 : iv 0 4 (3 : Int32) := iv_wide (iv_lit (v := 3) (by decide)) (by decide)
theorem iv_w4 : iv 0 4 (4 : Int32) := iv_wide (iv_lit (v := 4) (by decide)) (by decide)
theorem i32_4 : (4 : Int32).toInt = 4 := by decide
theorem rok_lay0 {r : Nat → Int32} {u v : Int32} (hR : rOK r) (hu : iv 0 15 u) (hv : iv 0 2 v) : rOK (m_X9_lay r u 0 v) :=
  rok_lay hR hu iv_w0 (fun _ => hv) (fun h => by rw [i32_0] at h; omega) (fun h => by rw [i32_0] at h; omega) (fun h => by rw [i32_0] at h; omega)
theorem rok_lay1 {r : Nat → Int32} {u v : Int32} (hR : rOK r) (hu : iv 0 15 u) (hv : iv 0 4 v) : rOK (m_X9_lay r u 1 v) :=
  rok_lay hR hu iv_w1 (fun h => by rw [i32_1] at h; omega) (fun _ => hv) (fun h => by rw [i32_1] at h; omega) (fun h => by rw [i32_1] at h; omega)
theorem rok_lay2 {r : Nat → Int32} {u v : Int32} (hR : rOK r) (hu : iv 0 15 u) (hv : iv 0 4 v) : rOK (m_X9_lay r u 2 v) :=
  rok_lay hR hu iv_w2 (fun h => by rw [i32_2] at h; omega) (fun h => by rw [i32_2] at h; omega) (fun _ => hv) (fun h => by rw [i32_2] at h; omega)
theorem rok_lay4 {r : Nat → Int32} {u v : Int32} (hR : rOK r) (hu : iv 0 15 u) : rOK (m_X9_lay r u 4 v) :=
  rok_lay hR hu iv_w4 (fun h => by rw [i32_4] at h; omega) (fun h => by rw [i32_4] at h; omega) (fun h => by rw [i32_4] at h; omega) (fun h => by rw [i32_4] at h; omega)
theorem rok_give {r : Nat → Int32} {u h : Int32} (hR : rOK r) (hu : iv 0 15 u) (hh : iv 0 4 h) : rOK (m_X9_give r u h) := by
  unfold m_X9_give
  exact rok_lay2 (rok_lay1 hR hu hh) hu hh
theorem rok_pays {r : Nat → Int32} {a b c : Int32} (hR : rOK r) (ha : iv 0 4 a) (hb : iv 0 4 b) : rOK (m_X9_pays r a b c) := by
  unfold m_X9_pays
  have f : ∀ {x : Int32}, iv 0 4 x → iv 88 317 (88 + x) := fun hx => iv_wide (iv_add (l := 88) (h := 92) (iv_lit (v := 88) (by decide)) hx (by decide)) (by decide)
  exact rok_free88 (rok_free88 hR (f ha)) (f hb)
theorem rok_many {r : Nat → Int32} {v : Int32} (hR : rOK r) (hv : iv 0 16 v) : rOK (upd r (1 : Int32).toNatClampNeg v) := by
  have e1 : (1 : Int32).toNatClampNeg = 1 := by decide
  rw [e1]
  obtain ⟨h1, h2, h3⟩ := hR
  refine ⟨?_, fun u hu => ?_, fun h hh => ?_⟩
  · rw [pk_us]; exact hv
  · have := h2 u hu
    rw [pk_un (by omega), pk_un (by omega), pk_un (by omega), pk_un (by omega)]
    exact this
  · rw [pk_un (by omega)]; exact h3 h hh
theorem rok_cslot {r : Nat → Int32} {k : Nat} {v : Int32} (hR : rOK r) (hk : 319 ≤ k ∧ (k - 318) % 13 ≠ 0) : rOK (upd r k v) := by
  obtain ⟨h1, h2, h3⟩ := hR
  refine ⟨?_, fun u hu => ?_, fun h hh => ?_⟩
  · rw [pk_un (by omega)]; exact h1
  · have := h2 u hu
    rw [pk_un (by omega), pk_un (by omega), pk_un (by omega), pk_un (by omega)]
    exact this
  · rw [pk_un (by omega)]; exact h3 h hh
theorem rok_cnt {r : Nat → Int32} {h v : Int32} (hR : rOK r) (hh : iv 0 4 h) (hv : iv 0 6 v) : rOK (upd r (m_X9_coresAt h).toNatClampNeg v) := by
  rw [ix_cores hh]
  obtain ⟨h1, h2, h3⟩ := hR
  refine ⟨?_, fun u hu => ?_, fun x hx => ?_⟩
  · rw [pk_un (by omega)]; exact h1
  · have := h2 u hu
    rw [pk_un (by omega), pk_un (by omega), pk_un (by omega), pk_un (by omega)]
    exact this
  · by_cases e : 318 + 13 * x = 318 + 13 * h.toNatClampNeg
    · rw [e, pk_us]; exact hv
    · rw [pk_un e]; exact h3 x hx
theorem ix_slot {h c n : Int32} (hh : iv 0 4 h) (hc : iv 1 2 c) (hn : iv 0 5 n) : ((m_X9_coresAt h + c) + 2 * n).toNatClampNeg = 318 + 13 * h.toNatClampNeg + c.toNatClampNeg + 2 * n.toNatClampNeg := by
  have hK := iv_coresAt hh
  have h1 := ix_cores hh
  have g1 := iv_int (iv_wide (l2 := 0) (h2 := 370) hK (by decide))
  have g2 := iv_int (iv_wide (l2 := 0) (h2 := 2) hc (by decide))
  have g3 := iv_int hn
  have := hK.1
  have := hK.2
  have := hc.1
  have := hc.2
  have := hn.1
  have := hn.2
  have a1 : (m_X9_coresAt h + c).toInt = (m_X9_coresAt h).toInt + c.toInt := i32_add (by omega) (by omega)
  have a2 : ((2 : Int32) * n).toInt = 2 * n.toInt := by rw [i32_mul (by rw [i32_2]; omega) (by rw [i32_2]; omega), i32_2]
  have a3 : ((m_X9_coresAt h + c) + 2 * n).toInt = (m_X9_coresAt h).toInt + c.toInt + 2 * n.toInt := by rw [i32_add (by rw [a1, a2]; omega) (by rw [a1, a2]; omega), a1, a2]
  exact tnc_of (by omega)
theorem ivc1 : iv 1 2 (1 : Int32) := iv_wide (iv_lit (v := 1) (by decide)) (by decide)
theorem ivc2 : iv 1 2 (2 : Int32) := iv_wide (iv_lit (v := 2) (by decide)) (by decide)
theorem tnc_1 : (1 : Int32).toNatClampNeg = 1 := by decide
theorem tnc_2 : (2 : Int32).toNatClampNeg = 2 := by decide
theorem slot_ok {h c n : Int32} (hh : iv 0 4 h) (hc : iv 1 2 c) (hn : iv 0 5 n) : 319 ≤ ((m_X9_coresAt h + c) + 2 * n).toNatClampNeg ∧ (((m_X9_coresAt h + c) + 2 * n).toNatClampNeg - 318) % 13 ≠ 0 := by
  rw [ix_slot hh hc hn]
  have g2 := iv_int (iv_wide (l2 := 0) (h2 := 2) hc (by decide))
  have g3 := iv_int hn
  have := hc.1
  have := hc.2
  have := hn.2
  refine ⟨by omega, ?_⟩
  have e : 318 + 13 * h.toNatClampNeg + c.toNatClampNeg + 2 * n.toNatClampNeg - 318 = 13 * h.toNatClampNeg + (c.toNatClampNeg + 2 * n.toNatClampNeg) := by omega
  rw [e, Nat.mul_add_mod, Nat.mod_eq_of_lt (by omega)]
  omega
theorem wn_Come_v {r : Nat → Int32} {x1 x2 x3 : Int32} (c : m_X9_whyNotCome r x1 x2 x3 = 0) : iv 0 2 x1 ∧ iv 0 4 x2 ∧ iv 0 7 x3 := by
  unfold m_X9_whyNotCome at c
  split at c
  · exact absurd c (by decide)
  rename_i h0
  split at c
  · exact absurd c (by decide)
  rename_i h1
  split at c
  · exact absurd c (by decide)
  rename_i h2
  exact ⟨iv_isKind h0, iv_isHolder h1, iv_min (lo := 0) (hi := 7) h2⟩
theorem lay_far {r : Nat → Int32} {u w v : Int32} {k : Nat} (hu : iv 0 15 u) (hw : iv 0 4 w) (hk : k < 8 ∨ 88 ≤ k) : m_X9_lay r u w v k = r k := by
  rw [lay_eq hu hw]
  have b1 := iv_int hu
  have b2 := iv_int hw
  have := hu.2
  have := hw.2
  rw [pk_un (by omega)]
theorem rok_come {r : Nat → Int32} {x1 x2 x3 : Int32} (hR : rOK r) (c : m_X9_whyNotCome r x1 x2 x3 = 0) : rOK (m_X9_comeOn r x1 x2 x3).2 := by
  obtain ⟨h1, h2, h3⟩ := wn_Come_v c
  have hn := wn_Come_n hR c
  unfold m_X9_comeOn
  dsimp only
  have k5 := rok_lay4 (v := 0) (rok_lay3 (rok_lay2 (rok_lay1 (rok_lay0 hR hn h1) hn h2) hn h2) hn h3) hn
  refine rok_many k5 ?_
  have e1 : (1 : Int32).toNatClampNeg = 1 := by decide
  clear k5
  rw [e1] at hn ⊢
  rw [lay_far hn iv_w4 (by omega), lay_far hn iv_w3 (by omega), lay_far hn iv_w2 (by omega), lay_far hn iv_w1 (by omega), lay_far hn iv_w0 (by omega)]
  exact iv_wide (iv_add (l := 1) (h := 16) hn (iv_lit (v := 1) (by decide)) (by decide)) (by decide)
theorem rok_lend {r : Nat → Int32} {x1 x2 x3 : Int32} (hR : rOK r) (c : m_X9_whyNotLend r x1 x2 x3 = 0) : rOK (m_X9_lendOn r x1 x2 x3).2 := by
  have hu := wn_Lend_0 hR c
  have hh := wn_Lend_1 hR c
  unfold m_X9_lendOn
  exact rok_lay4 (rok_lay2 hR hu hh) hu
theorem rok_bring {r : Nat → Int32} {x1 : Int32} (hR : rOK r) (hu : iv 0 15 x1) : rOK (m_X9_bringOn r x1).2 := by
  unfold m_X9_bringOn
  have k := rok_pays (c := m_X9_lateOf r x1 0) hR (rk_of2 hR hu) (rk_of1 hR hu)
  exact rok_lay2 k hu (rk_of1 k hu)
theorem rok_exchange {r : Nat → Int32} {x1 x2 : Int32} (hR : rOK r) (c : m_X9_whyNotExchange r x1 x2 = 0) : rOK (m_X9_exchangeOn r x1 x2).2 := by
  have hu := wn_Exchange_0 hR c
  have hv := wn_Exchange_1 hR c
  have ho := rk_of1 hR hu
  unfold m_X9_exchangeOn
  exact rok_free (rok_pays (rok_give (rok_give hR hu iv_w4) hv ho) ho iv_w4) (by decide)
theorem rok_advance {r : Nat → Int32} {x1 x2 x3 : Int32} (hR : rOK r) (c : m_X9_whyNotAdvance r x1 x2 x3 = 0) : rOK (m_X9_advanceOn r x1 x2 x3).2 := by
  have hh := wn_Advance_0 hR c
  have hv := wn_Advance_1 hR c
  have hn := wn_Adv_n hR c
  unfold m_X9_advanceOn
  have k1 := slot_ok hh ivc1 hn
  have k2 := slot_ok hh ivc2 hn
  have q2 := fun a b => rok_cslot (v := b) (rok_cslot (v := a) hR k1) k2
  refine rok_free (rok_give (rok_cnt (q2 _ _) hh ?_) hv hh) (by decide)
  have b := iv_int (iv_wide (l2 := 0) (h2 := 370) (iv_coresAt hh) (by decide))
  have e0 := ix_cores hh
  have e1 := ix_slot hh ivc1 hn
  have e2 := ix_slot hh ivc2 hn
  rw [tnc_1] at e1
  rw [tnc_2] at e2
  rw [pk_un (by omega), pk_un (by omega)]
  exact iv_wide (iv_add (l := 1) (h := 6) (iv_wide (l2 := 0) (h2 := 5) hn (by decide)) (iv_lit (v := 1) (by decide)) (by decide)) (by decide)
theorem rok_deliver_L {r : Nat → Int32} {x1 : Int32} (hR : rOK r) (hu : iv 0 15 x1) : ∀ (nF : Nat) (rr : Nat → Int32) (i : Int32), rOK rr → iv 0 5 (rr (m_X9_coresAt (m_X9_of r x1 1)).toNatClampNeg) → (m_X9_coresAt (m_X9_of r x1 1)).toInt + 1 ≤ i.toInt → rOK (m_X9_deliverOn_L65 nF r x1 rr i).2 := by
  have hh := rk_of1 hR hu
  have hK := iv_coresAt hh
  have eK := ix_cores hh
  have bK := iv_int (iv_wide (l2 := 0) (h2 := 370) hK (by decide))
  intro nF
  induction nF with
  | zero => intro rr i h1 h2 h3; exact h1
  | succ nF ih =>
    intro rr i h1 h2 h3
    rw [m_X9_deliverOn_L65]
    split
    · dsimp only
      have k1 := slot_ok hh ivc1 h2
      have e1 := ix_slot hh ivc1 h2
      rw [tnc_1] at e1
      have e3 : ∀ v : Int32, upd rr ((m_X9_coresAt (m_X9_of r x1 1) + 1) + 2 * rr (m_X9_coresAt (m_X9_of r x1 1)).toNatClampNeg).toNatClampNeg v (m_X9_coresAt (m_X9_of r x1 1)).toNatClampNeg = rr (m_X9_coresAt (m_X9_of r x1 1)).toNatClampNeg := fun v => pk_un (by omega)
      rw [e3]
      have k2 := slot_ok hh ivc2 h2
      exact rok_pays (rok_give (rok_cslot (rok_cslot h1 k1) k2) hu iv_w4) hh iv_w4
    · rename_i c
      have g := dl_i hK h2 h3 c
      have t := dl_top hK h2
      rw [i32_le] at c
      have gi := iv_int (iv_wide (l2 := 0) (h2 := 380) g (by decide))
      have := h2.2
      have top : (m_X9_coresAt (m_X9_of r x1 1) + 1 + 2 * rr (m_X9_coresAt (m_X9_of r x1 1)).toNatClampNeg).toInt ≤ (m_X9_coresAt (m_X9_of r x1 1)).toInt + 11 := by
        have := hK.1
        have := hK.2
        have := h2.1
        have c1 : (m_X9_coresAt (m_X9_of r x1 1) + 1).toInt = (m_X9_coresAt (m_X9_of r x1 1)).toInt + 1 := by rw [i32_add (by rw [i32_1]; omega) (by rw [i32_1]; omega), i32_1]
        have c2 : ((2 : Int32) * rr (m_X9_coresAt (m_X9_of r x1 1)).toNatClampNeg).toInt = 2 * (rr (m_X9_coresAt (m_X9_of r x1 1)).toNatClampNeg).toInt := by rw [i32_mul (by rw [i32_2]; omega) (by rw [i32_2]; omega), i32_2]
        rw [i32_add (by rw [c1, c2]; omega) (by rw [c1, c2]; omega), c1, c2]
        omega
      refine ih _ _ (rok_cslot h1 ⟨by omega, by omega⟩) (dl_ne h2 hK h3) (dl_up g h3)
theorem rok_deliver {r : Nat → Int32} {x1 : Int32} (hR : rOK r) (c : m_X9_whyNotDeliver r x1 = 0) : rOK (m_X9_deliverOn r x1).2 := by
  have hu := wn_Deliver_0 hR c
  have ho := wn_Del_o c
  have hh := rk_of1 hR hu
  have hcnt := iv_sub (l := 0) (h := 5) (oldest_cnt hR hh ho) (iv_lit (v := 1) (x := (1 : Int32)) (by decide)) (by decide)
  unfold m_X9_deliverOn
  exact rok_deliver_L hR hu _ _ _ (rok_cnt hR hh (iv_wide hcnt (by decide))) (iv_us hcnt) (dl_hj (iv_coresAt hh) (oldest_rng hR hh ho))
theorem rok_take {r : Nat → Int32} {x1 x2 x3 : Int32} (hR : rOK r) (c : m_X9_whyNotTake r x1 x2 x3 = 0) : rOK (m_X9_takeOn r x1 x2 x3).2 := by
  have hu := wn_Take_0 hR c
  have hv := wn_Take_1 hR c
  have hp := wn_Take_2 hR c
  unfold m_X9_takeOn
  have k1 := rok_lay3 hR hu (iv_xor7 (rk_of3 hR hu) hp)
  have k2 := rok_lay3 k1 hv (iv_or7 (rk_of3 k1 hv) hp)
  have k3 := fun v => rok_free (k := (6 : Int32).toNatClampNeg) (v := v) k2 (by decide)
  have key : ∀ rr : Nat → Int32, rOK rr → rOK (m_X9_takeOn_L40 r x1 x2 x3 rr).2 := by
    intro rr hrr
    have a1 := rk_of1 hrr hu
    have a2 := rk_of1 hrr hv
    have a0 := rk_of0 hrr hu
    unfold m_X9_takeOn_L40
    split
    · exact hrr
    · split
      · exact rok_free88 hrr (iv_wide (iv_owedAt a2 a1 a0 hp) (by decide))
      · exact rok_free88 hrr (iv_wide (iv_owedAt a1 a2 a0 hp) (by decide))
  exact key _ (k3 _)
theorem rok_settle {r : Nat → Int32} {x1 x2 x3 x4 : Int32} (hR : rOK r) (c : m_X9_whyNotSettle r x1 x2 x3 x4 = 0) : rOK (m_X9_settleOn r x1 x2 x3 x4).2 := by
  have h1 := wn_Settle_0 hR c
  have h2 := wn_Settle_1 hR c
  have h3 := wn_Settle_2 hR c
  have h4 := wn_Settle_3 hR c
  unfold m_X9_settleOn
  exact rok_pays (rok_free88 hR (iv_wide (iv_owedAt h1 h2 h3 h4) (by decide))) h1 h2
theorem rok_buy {r : Nat → Int32} {x1 x2 : Int32} (hR : rOK r) (c : m_X9_whyNotBuy r x1 x2 = 0) : rOK (m_X9_buyOn r x1 x2).2 := by
  have hu := wn_Buy_0 hR c
  have hp := wn_Buy_1 hR c
  unfold m_X9_buyOn
  have k1 := rok_lay3 hR hu (iv_or7 (rk_of3 hR hu) hp)
  exact rok_free (rok_free88 k1 (iv_wide (iv_add (l := 88) (h := 92) (iv_lit (v := 88) (by decide)) (rk_of1 k1 hu) (by decide)) (by decide))) (by decide)
theorem rok_days {r : Nat → Int32} {x1 : Int32} (hR : rOK r) : rOK (m_X9_daysOn r x1).2 := by
  unfold m_X9_daysOn
  exact rok_free hR (by decide)
theorem rok_pr {a : Int32} {f : Nat → Int32} (h : rOK f) : rOK ((a, f) : Int32 × (Nat → Int32)).2 := h
theorem rok_does {r : Nat → Int32} {x1 x2 x3 x4 : Int32} (hR : rOK r) : rOK (m_X9_does r x1 x2 x3 x4).2 := by
  unfold m_X9_does
  exact rok_ite (fun c0 => rok_ite (fun c1 => rok_ite (fun c2 => rok_pr (rok_advance hR c1)) (fun c2 => rok_pr (rok_advance hR c1))) (fun c1 => rok_pr hR)) (fun c0 => rok_ite (fun c1 => rok_ite (fun c2 => rok_ite (fun c3 => rok_pr (rok_buy hR c2)) (fun c3 => rok_pr (rok_buy hR c2))) (fun c2 => rok_pr hR)) (fun c1 => rok_ite (fun c2 => rok_ite (fun c3 => rok_pr hR) (fun c3 => rok_ite (fun c4 => rok_pr (rok_days hR)) (fun c4 => rok_pr (rok_days hR)))) (fun c2 => rok_ite (fun c3 => rok_ite (fun c4 => rok_pr hR) (fun c4 => rok_ite (fun c5 => rok_pr (rok_days hR)) (fun c5 => rok_pr (rok_days hR)))) (fun c3 => rok_ite (fun c4 => rok_ite (fun c5 => rok_pr hR) (fun c5 => rok_ite (fun c6 => rok_pr (rok_days hR)) (fun c6 => rok_pr (rok_days hR)))) (fun c4 => rok_ite (fun c5 => rok_ite (fun c6 => rok_pr hR) (fun c6 => rok_ite (fun c7 => rok_pr (rok_days hR)) (fun c7 => rok_pr (rok_days hR)))) (fun c5 => rok_ite (fun c6 => rok_ite (fun c7 => rok_pr hR) (fun c7 => rok_ite (fun c8 => rok_pr (rok_days hR)) (fun c8 => rok_pr (rok_days hR)))) (fun c6 => rok_ite (fun c7 => rok_ite (fun c8 => rok_pr hR) (fun c8 => rok_ite (fun c9 => rok_pr (rok_days hR)) (fun c9 => rok_pr (rok_days hR)))) (fun c7 => rok_ite (fun c8 => rok_ite (fun c9 => rok_pr hR) (fun c9 => rok_ite (fun c10 => rok_pr (rok_days hR)) (fun c10 => rok_pr (rok_days hR)))) (fun c8 => rok_ite (fun c9 => rok_ite (fun c10 => rok_pr hR) (fun c10 => rok_ite (fun c11 => rok_pr (rok_days hR)) (fun c11 => rok_pr (rok_days hR)))) (fun c9 => rok_ite (fun c10 => rok_ite (fun c11 => rok_pr hR) (fun c11 => rok_ite (fun c12 => rok_pr (rok_days hR)) (fun c12 => rok_pr (rok_days hR)))) (fun c10 => rok_ite (fun c11 => rok_ite (fun c12 => rok_ite (fun c13 => rok_pr (rok_lend hR c12)) (fun c13 => rok_pr (rok_lend hR c12))) (fun c12 => rok_pr hR)) (fun c11 => rok_ite (fun c12 => rok_ite (fun c13 => rok_pr hR) (fun c13 => rok_ite (fun c14 => rok_pr (rok_days hR)) (fun c14 => rok_pr (rok_days hR)))) (fun c12 => rok_ite (fun c13 => rok_ite (fun c14 => rok_ite (fun c15 => rok_pr (rok_come hR c14)) (fun c15 => rok_pr (rok_come hR c14))) (fun c14 => rok_pr hR)) (fun c13 => rok_ite (fun c14 => rok_ite (fun c15 => rok_pr hR) (fun c15 => rok_ite (fun c16 => rok_pr (rok_days hR)) (fun c16 => rok_pr (rok_days hR)))) (fun c14 => rok_ite (fun c15 => rok_ite (fun c16 => rok_pr hR) (fun c16 => rok_ite (fun c17 => rok_pr (rok_days hR)) (fun c17 => rok_pr (rok_days hR)))) (fun c15 => rok_ite (fun c16 => rok_ite (fun c17 => rok_pr hR) (fun c17 => rok_ite (fun c18 => rok_pr (rok_days hR)) (fun c18 => rok_pr (rok_days hR)))) (fun c16 => rok_ite (fun c17 => rok_ite (fun c18 => rok_ite (fun c19 => rok_pr (rok_bring hR (wn_Bring_0 hR c18))) (fun c19 => rok_pr (rok_bring hR (wn_Bring_0 hR c18)))) (fun c18 => rok_pr hR)) (fun c17 => rok_ite (fun c18 => rok_ite (fun c19 => rok_pr hR) (fun c19 => rok_ite (fun c20 => rok_pr (rok_days hR)) (fun c20 => rok_pr (rok_days hR)))) (fun c18 => rok_ite (fun c19 => rok_ite (fun c20 => rok_ite (fun c21 => rok_pr (rok_take hR c20)) (fun c21 => rok_pr (rok_take hR c20))) (fun c20 => rok_pr hR)) (fun c19 => rok_ite (fun c20 => rok_ite (fun c21 => rok_pr hR) (fun c21 => rok_ite (fun c22 => rok_pr (rok_days hR)) (fun c22 => rok_pr (rok_days hR)))) (fun c20 => rok_ite (fun c21 => rok_ite (fun c22 => rok_ite (fun c23 => rok_pr (rok_deliver hR c22)) (fun c23 => rok_pr (rok_deliver hR c22))) (fun c22 => rok_pr hR)) (fun c21 => rok_ite (fun c22 => rok_ite (fun c23 => rok_pr hR) (fun c23 => rok_ite (fun c24 => rok_pr (rok_days hR)) (fun c24 => rok_pr (rok_days hR)))) (fun c22 => rok_ite (fun c23 => rok_ite (fun c24 => rok_ite (fun c25 => rok_pr (rok_exchange hR c24)) (fun c25 => rok_pr (rok_exchange hR c24))) (fun c24 => rok_pr hR)) (fun c23 => rok_ite (fun c24 => rok_pr hR) (fun c24 => rok_ite (fun c25 => rok_pr (rok_days hR)) (fun c25 => rok_pr (rok_days hR)))))))))))))))))))))))))))
/-- a state copied -/
theorem cp_loop {ff : Nat → Int32} {x1 x2 : Int32} (h1 : iv 0 4979 x1) (h2 : iv 0 4979 x2) : ∀ (nF k : Nat) (r : Nat → Int32), k ≤ 383 → 383 < nF + k → m_X9_copyState_L3 nF ff r x1 x2 (nI k) = fun j => if x2.toNatClampNeg + k ≤ j ∧ j < x2.toNatClampNeg + 383 then ff (x1.toNatClampNeg + (j - x2.toNatClampNeg)) else r j := by
  have e383 : (383 : Int32).toInt = 383 := by decide
  have b1 := iv_int h1
  have b2 := iv_int h2
  have := h1.2
  have := h2.2
  intro nF
  induction nF with
  | zero => intro k r hk hn; omega
  | succ nF ih =>
    intro k r hk hn
    have ek : (nI k).toInt = k := nI_toInt (by omega)
    rw [m_X9_copyState_L3]
    by_cases hc : k = 383
    · subst hc
      rw [if_pos (by rw [i32_le]; omega)]
      funext j
      rw [if_neg (by omega)]
    · rw [if_neg (by rw [i32_le]; omega), nI_1, ih (k + 1) _ (by omega) (by omega)]
      have t1 : (x1 + nI k).toNatClampNeg = x1.toNatClampNeg + k := tnc_of (by rw [i32_add (by omega) (by omega)]; omega)
      have t2 : (x2 + nI k).toNatClampNeg = x2.toNatClampNeg + k := tnc_of (by rw [i32_add (by omega) (by omega)]; omega)
      rw [t1, t2]
      funext j
      by_cases hj : j = x2.toNatClampNeg + k
      · subst hj
        rw [if_neg (by omega), if_pos (by omega), pk_us, Nat.add_sub_cancel_left]
      · rw [pk_un hj]
        by_cases hi : x2.toNatClampNeg + (k + 1) ≤ j ∧ j < x2.toNatClampNeg + 383
        · rw [if_pos hi, if_pos (by omega)]
        · rw [if_neg hi, if_neg (by omega)]
theorem cp_eq {ff g : Nat → Int32} {x1 x2 : Int32} (h1 : iv 0 4979 x1) (h2 : iv 0 4979 x2) : m_X9_copyState ff g x1 x2 = fun j => if x2.toNatClampNeg ≤ j ∧ j < x2.toNatClampNeg + 383 then ff (x1.toNatClampNeg + (j - x2.toNatClampNeg)) else g j := by
  unfold m_X9_copyState
  have h := cp_loop (ff := ff) h1 h2 1000 0 g (by omega) (by omega)
  rw [nI_0] at h
  exact h
theorem cp_low {ff g : Nat → Int32} {j : Nat} (h : j < 383) : m_X9_copyState ff g 0 0 j = ff j := by
  rw [cp_eq (iv_wide iv_0 (by decide)) (iv_wide iv_0 (by decide))]
  have e0 : (0 : Int32).toNatClampNeg = 0 := by decide
  rw [e0]
  show (if 0 ≤ j ∧ j < 0 + 383 then ff (0 + (j - 0)) else g j) = ff j
  rw [if_pos (by omega)]
  congr 1
  omega
theorem rok_low {f r : Nat → Int32} (hR : rOK r) (h : ∀ j : Nat, j < 383 → f j = r j) : rOK f := by
  obtain ⟨h1, h2, h3⟩ := hR
  refine ⟨?_, fun u hu => ?_, fun x hx => ?_⟩
  · rw [h _ (by omega)]; exact h1
  · have := h2 u hu
    rw [h _ (by omega), h _ (by omega), h _ (by omega), h _ (by omega)]
    exact this
  · rw [h _ (by omega)]; exact h3 x hx
theorem cp_rok {ff g : Nat → Int32} (h : rOK ff) : rOK (m_X9_copyState ff g 0 0) := rok_low h (fun _ hj => cp_low hj)
theorem bg_loop : ∀ (nF k : Nat) (r : Nat → Int32), k ≤ 383 → 383 < nF + k → m_X9_begin_L2 nF r (nI k) = upd (upd (upd (fun j => if k ≤ j ∧ j < 383 then 0 else r j) 2 5) 3 100) 4 20 := by
  have e383 : (383 : Int32).toInt = 383 := by decide
  have e2 : (2 : Int32).toNatClampNeg = 2 := by decide
  have e3 : (3 : Int32).toNatClampNeg = 3 := by decide
  have e4 : (4 : Int32).toNatClampNeg = 4 := by decide
  intro nF
  induction nF with
  | zero => intro k r hk hn; omega
  | succ nF ih =>
    intro k r hk hn
    have ek : (nI k).toInt = k := nI_toInt (by omega)
    rw [m_X9_begin_L2]
    by_cases hc : k = 383
    · subst hc
      rw [if_pos (by rw [i32_le]; omega), e2, e3, e4]
      have : (fun j => if 383 ≤ j ∧ j < 383 then (0 : Int32) else r j) = r := by
        funext j
        rw [if_neg (by omega)]
      rw [this]
    · rw [if_neg (by rw [i32_le]; omega), nI_1, ih (k + 1) _ (by omega) (by omega)]
      have t : (nI k).toNatClampNeg = k := nI_clamp (by omega)
      rw [t]
      have : (fun j => if k + 1 ≤ j ∧ j < 383 then (0 : Int32) else upd r k 0 j) = (fun j => if k ≤ j ∧ j < 383 then (0 : Int32) else r j) := by
        funext j
        by_cases hj : j = k
        · subst hj
          rw [if_neg (by omega), if_pos (by omega), pk_us]
        · rw [pk_un hj]
          by_cases hi : k + 1 ≤ j ∧ j < 383
          · rw [if_pos hi, if_pos (by omega)]
          · rw [if_neg hi, if_neg (by omega)]
      rw [this]
theorem bg_eq (r : Nat → Int32) : m_X9_begin r = upd (upd (upd (fun j => if j < 383 then 0 else r j) 2 5) 3 100) 4 20 := by
  unfold m_X9_begin
  have h := bg_loop 1000 0 r (by omega) (by omega)
  rw [nI_0] at h
  rw [h]
  have : (fun j => if 0 ≤ j ∧ j < 383 then (0 : Int32) else r j) = (fun j => if j < 383 then (0 : Int32) else r j) := by
    funext j
    by_cases hj : j < 383
    · rw [if_pos hj, if_pos (by omega)]
    · rw [if_neg hj, if_neg (by omega)]
  rw [this]
theorem bg_rok (r : Nat → Int32) : rOK (m_X9_begin r) := by
  rw [bg_eq]
  have h0 : ∀ j : Nat, j < 383 → (fun j => if j < 383 then (0 : Int32) else r j) j = 0 := fun j hj => if_pos hj
  refine rok_free (rok_free (rok_free ⟨?_, fun u hu => ?_, fun x hx => ?_⟩ (by omega)) (by omega)) (by omega)
  · rw [h0 _ (by omega)]; exact iv_wide iv_0 (by decide)
  · rw [h0 _ (by omega), h0 _ (by omega), h0 _ (by omega), h0 _ (by omega)]
    exact ⟨iv_wide iv_0 (by decide), iv_wide iv_0 (by decide), iv_wide iv_0 (by decide), iv_wide iv_0 (by decide)⟩
  · rw [h0 _ (by omega)]; exact iv_wide iv_0 (by decide)
theorem rokW_set {z : MoT} {f : Nat → Int32} (h : rOK f) : rOK (mW (mW' z f)) := h
theorem lp_dec16 {x B : Int32} {n : Nat} (h0 : 0 ≤ x.toInt) (h1 : ¬ B ≤ x) (hB : B.toInt ≤ 16) (hm : ((16 : Int32).toInt - x.toInt).toNat < n + 1) : ((16 : Int32).toInt - (x + 1).toInt).toNat < n := by
  have e : (16 : Int32).toInt = 16 := by decide
  rw [lp_s h1]
  rw [i32_le] at h1
  rw [e] at hm ⊢
  omega
