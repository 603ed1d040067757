/-! p35: two pools beside one and the same reference -/
def SIM (T : Int) (z1 z2 : SpT) : Prop := ∃ mo : MoT, PR T z1 mo ∧ PR T z2 mo
theorem SIM.up {T T2 : Int} {z1 z2 : SpT} (h : SIM T z1 z2) (e : T ≤ T2) : SIM T2 z1 z2 := by
  obtain ⟨mo, a, b⟩ := h
  exact ⟨mo, a.up e, b.up e⟩
theorem SIM.l {T : Int} {z1 z2 : SpT} (h : SIM T z1 z2) (h0 : 100000 ≤ T) (h1 : T ≤ 1000000) : OKz z1 := by
  obtain ⟨mo, a, b⟩ := h
  exact ⟨T, mo, h0, h1, a⟩
theorem SIM.r {T : Int} {z1 z2 : SpT} (h : SIM T z1 z2) (h0 : 100000 ≤ T) (h1 : T ≤ 1000000) : OKz z2 := by
  obtain ⟨mo, a, b⟩ := h
  exact ⟨T, mo, h0, h1, b⟩
theorem SIM.vis {T : Int} {z1 z2 y1 y2 : SpT} (h : SIM T z1 z2) (v1 : VIS z1 y1) (v2 : VIS z2 y2) : SIM T y1 y2 := by
  obtain ⟨mo, a, b⟩ := h
  exact ⟨mo, v1.pr a, v2.pr b⟩
def gES (es : List (Nat × Int32)) : Prop := ∀ e ∈ es, (¬ e.1 = 0 ∧ ¬ e.2 = 0) ∧ ∀ f ∈ es, e.2 = f.2 → e.1 = f.1
theorem gES_ea : gES ea := by unfold gES; decide +kernel
theorem gES_eb : gES eb := by unfold gES; decide +kernel
theorem gES_ec : gES ec := by unfold gES; decide +kernel
theorem gES_ed : gES ed := by unfold gES; decide +kernel
theorem gES_ee : gES ee := by unfold gES; decide +kernel
theorem gES_ef : gES ef := by unfold gES; decide +kernel
theorem gES_eg : gES eg := by unfold gES; decide +kernel
theorem ag_kV {T : Int} {c1 c2 : Nat × Int32 × SpT} {m : Int32 × MoT} {es : List (Nat × Int32)} (h1 : AG T c1 m es) (h2 : AG T c2 m es) (g : gES es) : kV c1 = kV c2 ∧ SIM (T + 99) c1.2.2 c2.2.2 := by
  refine ⟨?_, ⟨m.2, h1.1, h2.1⟩⟩
  unfold kV
  rcases h1.2 with ⟨a1, a2, a3⟩ | ⟨e, a0, a1, a2⟩
  · rcases h2.2 with ⟨b1, b2, b3⟩ | ⟨f, b0, b1, b2⟩
    · rw [if_pos a1, if_pos b1, a3, b3]
    · exact absurd (b2.symm.trans a2) (g f b0).1.2
  · rcases h2.2 with ⟨b1, b2, b3⟩ | ⟨f, b0, b1, b2⟩
    · exact absurd (a2.symm.trans b2) (g e a0).1.2
    · have k : e.1 = f.1 := (g e a0).2 f b0 (a2.symm.trans b2)
      rw [a1, b1, ← k, if_neg (g e a0).1.1, if_neg (g e a0).1.1]
section OUTS
variable {z : SpT} {x1 x2 x3 x4 : Int32}
theorem ou_come (h : OKz z) : Out (m_X5_tryCome (pN z) x1 x2 x3) (pN z) := by
  obtain ⟨T, mo, h0, h1, H⟩ := h
  exact out_of (a_come H.2.1.1 H.2.1.2.1 H.2.1.2.2) he_3
theorem fn_come : m_X8_come z x1 x2 x3 = fnA z (m_X5_tryCome (pN z) x1 x2 x3) := rfl
theorem vi_come (h : OKz z) (c : ¬ (m_X8_come z x1 x2 x3).1 = 0) : VIS z (m_X8_come z x1 x2 x3).2.2 := by
  rw [fn_come] at c ⊢
  exact vis_fin h.hi (ou_come h) c
theorem gs_come {T : Int} (g : GS T z) (h : OKz z) (hT : T ≤ 10000000) : GS (T + 1) (m_X8_come z x1 x2 x3).2.2 := by
  rw [fn_come]
  exact gs_fin g (by omega) h.hi (ou_come h) (sg_come g.1)
theorem ou_lend (h : OKz z) : Out (m_X5_tryLend (pN z) x1 x2 x3) (pN z) := by
  obtain ⟨T, mo, h0, h1, H⟩ := h
  exact out_of (a_lend H.2.1.1 H.2.1.2.1 H.2.1.2.2 (by omega)) he_3
theorem fn_lend : m_X8_lend z x1 x2 x3 = fnA z (m_X5_tryLend (pN z) x1 x2 x3) := rfl
theorem vi_lend (h : OKz z) (c : ¬ (m_X8_lend z x1 x2 x3).1 = 0) : VIS z (m_X8_lend z x1 x2 x3).2.2 := by
  rw [fn_lend] at c ⊢
  exact vis_fin h.hi (ou_lend h) c
theorem gs_lend {T : Int} (g : GS T z) (h : OKz z) (hT : T ≤ 10000000) : GS (T + 1) (m_X8_lend z x1 x2 x3).2.2 := by
  rw [fn_lend]
  exact gs_fin g (by omega) h.hi (ou_lend h) (sg_lend g.1)
theorem ou_bring (h : OKz z) : Out (m_X5_tryBring (pN z) x1) (pN z) := by
  obtain ⟨T, mo, h0, h1, H⟩ := h
  exact out_of (a_bring H.2.1.1 H.2.1.2.1 H.2.1.2.2 (by omega)) he_2
theorem fn_bring : m_X8_bring z x1 = fnA z (m_X5_tryBring (pN z) x1) := rfl
theorem vi_bring (h : OKz z) (c : ¬ (m_X8_bring z x1).1 = 0) : VIS z (m_X8_bring z x1).2.2 := by
  rw [fn_bring] at c ⊢
  exact vis_fin h.hi (ou_bring h) c
theorem gs_bring {T : Int} (g : GS T z) (h : OKz z) (hT : T ≤ 10000000) : GS (T + 1) (m_X8_bring z x1).2.2 := by
  rw [fn_bring]
  exact gs_fin g (by omega) h.hi (ou_bring h) (sg_bring g.1 h.st.1)
theorem ou_exchange (h : OKz z) : Out (m_X5_tryExchange (pN z) x1 x2) (pN z) := by
  obtain ⟨T, mo, h0, h1, H⟩ := h
  exact out_of (a_exchange H.2.1.1 H.2.1.2.1 H.2.1.2.2) he_2
theorem fn_exchange : m_X8_exchange z x1 x2 = fnA z (m_X5_tryExchange (pN z) x1 x2) := rfl
theorem vi_exchange (h : OKz z) (c : ¬ (m_X8_exchange z x1 x2).1 = 0) : VIS z (m_X8_exchange z x1 x2).2.2 := by
  rw [fn_exchange] at c ⊢
  exact vis_fin h.hi (ou_exchange h) c
theorem gs_exchange {T : Int} (g : GS T z) (h : OKz z) (hT : T ≤ 10000000) : GS (T + 1) (m_X8_exchange z x1 x2).2.2 := by
  rw [fn_exchange]
  exact gs_fin g (by omega) h.hi (ou_exchange h) (sg_exchange g.1 h.st.1)
theorem ou_advance (h : OKz z) : Out (m_X5_tryAdvance (pN z) x1 x2 x3) (pN z) := by
  obtain ⟨T, mo, h0, h1, H⟩ := h
  exact out_of (a_advance H.2.1.1 H.2.1.2.1 H.2.1.2.2 (by omega)) he_3
theorem fn_advance : m_X8_advance z x1 x2 x3 = fnA z (m_X5_tryAdvance (pN z) x1 x2 x3) := rfl
theorem vi_advance (h : OKz z) (c : ¬ (m_X8_advance z x1 x2 x3).1 = 0) : VIS z (m_X8_advance z x1 x2 x3).2.2 := by
  rw [fn_advance] at c ⊢
  exact vis_fin h.hi (ou_advance h) c
theorem gs_advance {T : Int} (g : GS T z) (h : OKz z) (hT : T ≤ 10000000) : GS (T + 1) (m_X8_advance z x1 x2 x3).2.2 := by
  rw [fn_advance]
  exact gs_fin g (by omega) h.hi (ou_advance h) (sg_advance g.1)
theorem ou_deliver (h : OKz z) : Out (m_X5_tryDeliver (pN z) x1) (pN z) := by
  obtain ⟨T, mo, h0, h1, H⟩ := h
  exact out_of (a_deliver H.2.1.1 H.2.1.2.1 H.2.1.2.2 (by omega)) he_2
theorem fn_deliver : m_X8_deliver z x1 = fnA z (m_X5_tryDeliver (pN z) x1) := rfl
theorem vi_deliver (h : OKz z) (c : ¬ (m_X8_deliver z x1).1 = 0) : VIS z (m_X8_deliver z x1).2.2 := by
  rw [fn_deliver] at c ⊢
  exact vis_fin h.hi (ou_deliver h) c
theorem gs_deliver {T : Int} (g : GS T z) (h : OKz z) (hT : T ≤ 10000000) : GS (T + 1) (m_X8_deliver z x1).2.2 := by
  rw [fn_deliver]
  exact gs_fin g (by omega) h.hi (ou_deliver h) (sg_deliver g.1 h.st.1)
theorem ou_take (h : OKz z) : Out (m_X5_tryTake (pN z) x1 x2 x3) (pN z) := by
  obtain ⟨T, mo, h0, h1, H⟩ := h
  exact out_of (a_take H.2.1.1 H.2.1.2.1 H.2.1.2.2 (by omega)) he_2
theorem fn_take : m_X8_take z x1 x2 x3 = fnA z (m_X5_tryTake (pN z) x1 x2 x3) := rfl
theorem vi_take (h : OKz z) (c : ¬ (m_X8_take z x1 x2 x3).1 = 0) : VIS z (m_X8_take z x1 x2 x3).2.2 := by
  rw [fn_take] at c ⊢
  exact vis_fin h.hi (ou_take h) c
theorem gs_take {T : Int} (g : GS T z) (h : OKz z) (hT : T ≤ 10000000) : GS (T + 1) (m_X8_take z x1 x2 x3).2.2 := by
  rw [fn_take]
  exact gs_fin g (by omega) h.hi (ou_take h) (sg_take g.1 hT)
theorem ou_settle (h : OKz z) : Out (m_X5_trySettle (pN z) x1 x2 x3 x4) (pN z) := by
  obtain ⟨T, mo, h0, h1, H⟩ := h
  exact out_of (a_settle H.2.1.1 H.2.1.2.1 H.2.1.2.2 (by omega)) he_2
theorem fn_settle : m_X8_settle z x1 x2 x3 x4 = fnA z (m_X5_trySettle (pN z) x1 x2 x3 x4) := rfl
theorem vi_settle (h : OKz z) (c : ¬ (m_X8_settle z x1 x2 x3 x4).1 = 0) : VIS z (m_X8_settle z x1 x2 x3 x4).2.2 := by
  rw [fn_settle] at c ⊢
  exact vis_fin h.hi (ou_settle h) c
theorem gs_settle {T : Int} (g : GS T z) (h : OKz z) (hT : T ≤ 10000000) : GS (T + 1) (m_X8_settle z x1 x2 x3 x4).2.2 := by
  rw [fn_settle]
  exact gs_fin g (by omega) h.hi (ou_settle h) (sg_settle g.1 hT)
theorem ou_buy (h : OKz z) : Out (m_X5_tryBuy (pN z) x1 x2) (pN z) := by
  obtain ⟨T, mo, h0, h1, H⟩ := h
  exact out_of (a_buy H.2.1.1 H.2.1.2.1 H.2.1.2.2) he_2
theorem fn_buy : m_X8_buy z x1 x2 = fnA z (m_X5_tryBuy (pN z) x1 x2) := rfl
theorem vi_buy (h : OKz z) (c : ¬ (m_X8_buy z x1 x2).1 = 0) : VIS z (m_X8_buy z x1 x2).2.2 := by
  rw [fn_buy] at c ⊢
  exact vis_fin h.hi (ou_buy h) c
theorem gs_buy {T : Int} (g : GS T z) (h : OKz z) (hT : T ≤ 10000000) : GS (T + 1) (m_X8_buy z x1 x2).2.2 := by
  rw [fn_buy]
  exact gs_fin g (by omega) h.hi (ou_buy h) (sg_buy g.1 h.st.1)
theorem ou_days (h : OKz z) : Out (m_X5_tryDays (pN z) x1) (pN z) := by
  obtain ⟨T, mo, h0, h1, H⟩ := h
  exact out_of (a_days H.2.1.1 H.2.1.2.1 H.2.1.2.2 (by omega)) he_1
theorem fn_days : m_X8_days z x1 = fnA z (m_X5_tryDays (pN z) x1) := rfl
theorem vi_days (h : OKz z) (c : ¬ (m_X8_days z x1).1 = 0) : VIS z (m_X8_days z x1).2.2 := by
  rw [fn_days] at c ⊢
  exact vis_fin h.hi (ou_days h) c
theorem gs_days {T : Int} (g : GS T z) (h : OKz z) (hT : T ≤ 10000000) : GS (T + 1) (m_X8_days z x1).2.2 := by
  rw [fn_days]
  exact gs_fin g (by omega) h.hi (ou_days h) (sg_days g.1)
theorem ou_set (h : OKz z) : Out (m_X5_trySet (pN z) x1 x2) (pN z) := by
  obtain ⟨T, mo, h0, h1, H⟩ := h
  exact out_of (a_set H.2.1.1 H.2.1.2.1 H.2.1.2.2) he_1
theorem fn_set : m_X8_set z x1 x2 = fnA z (m_X5_trySet (pN z) x1 x2) := rfl
theorem vi_set (h : OKz z) (c : ¬ (m_X8_set z x1 x2).1 = 0) : VIS z (m_X8_set z x1 x2).2.2 := by
  rw [fn_set] at c ⊢
  exact vis_fin h.hi (ou_set h) c
theorem gs_set {T : Int} (g : GS T z) (h : OKz z) (hT : T ≤ 10000000) : GS (T + 1) (m_X8_set z x1 x2).2.2 := by
  rw [fn_set]
  exact gs_fin g (by omega) h.hi (ou_set h) (sg_set g.1)
end OUTS
section VISQ
variable {z : SpT} {x1 x2 x3 x4 : Int32}
theorem sm_setting : (m_X8_setting z x1).2.2 = z := by
  unfold m_X8_setting
  repeat' split
  all_goals rfl
theorem sm_owed : (m_X8_owed z x1 x2 x3 x4).2.2 = z := by
  unfold m_X8_owed
  repeat' split
  all_goals rfl
theorem sm_about : (m_X8_about z x1).2.2 = z := by
  unfold m_X8_about
  repeat' split
  all_goals rfl
theorem sm_unit : (m_X8_unit z x1 x2).2.2 = z := by
  unfold m_X8_unit
  repeat' split
  all_goals rfl
theorem sm_holder : (m_X8_holder z x1 x2).2.2 = z := by
  unfold m_X8_holder
  repeat' split
  all_goals rfl
theorem sm_core : (m_X8_core z x1 x2 x3).2.2 = z := by
  unfold m_X8_core
  repeat' split
  all_goals rfl
theorem sm_complete : (m_X8_complete z x1 x2).2.2 = z := by
  unfold m_X8_complete
  repeat' split
  all_goals rfl
theorem sm_takings : (m_X8_takings z x1 x2).2.2 = z := by
  unfold m_X8_takings
  repeat' split
  all_goals rfl
theorem sm_bill : (m_X8_bill z x1 x2).2.2 = z := by
  unfold m_X8_bill
  repeat' split
  all_goals rfl
theorem sm_cheapest : (m_X8_cheapest z x1 x2).2.2 = z := by
  unfold m_X8_cheapest
  repeat' split
  all_goals rfl
theorem fe_vis : VIS z (pT' z (m_X6_firstError (pT z)).2) := ⟨⟨fe_S _, fe_L _⟩, ⟨rfl, rfl, rfl, rfl⟩, ⟨rfl, rfl⟩, fun _ _ => rfl⟩
theorem vi_append (c : ¬ (m_X8_append z x1).1 = 0) : VIS z (m_X8_append z x1).2.2 := by
  unfold m_X8_append at c ⊢
  by_cases c1 : x1 < 0
  · rw [if_pos c1]; exact VIS.rf
  rw [if_neg c1] at c ⊢
  by_cases c2 : x1 ≤ 255
  case neg => rw [if_neg c2]; exact VIS.rf
  rw [if_pos c2] at c ⊢
  by_cases c3 : tL (pT z) < 120
  · rw [if_pos c3] at c; exact absurd rfl c
  · rw [if_neg c3]; exact VIS.rf
theorem vi_load (c : ¬ (m_X8_load z).1 = 0) : VIS z (m_X8_load z).2.2 := by
  unfold m_X8_load at c ⊢
  by_cases c1 : (m_X6_firstError (pT z)).1 = -1
  · rw [if_pos c1] at c; exact absurd rfl c
  · rw [if_neg c1]; exact fe_vis
theorem vi_undo (c : ¬ (m_X8_undo z).1 = 0) : VIS z (m_X8_undo z).2.2 := by
  unfold m_X8_undo at c ⊢
  by_cases c1 : hC (pH z) = 0
  · rw [if_pos c1]; exact VIS.rf
  · rw [if_neg c1] at c; exact absurd rfl c
theorem vi_save (c : ¬ (m_X8_save z x1).1 = 0) : VIS z (m_X8_save z x1).2.2 := by
  unfold m_X8_save at c ⊢
  by_cases c1 : m_X8_isSlot x1 = 0
  · rw [if_pos c1]; exact VIS.rf
  rw [if_neg c1] at c
  by_cases c2 : x1 = 0
  · rw [if_pos c2] at c; exact absurd rfl c
  · rw [if_neg c2] at c; exact absurd rfl c
theorem vi_restore (c : ¬ (m_X8_restore z x1).1 = 0) : VIS z (m_X8_restore z x1).2.2 := by
  unfold m_X8_restore at c ⊢
  by_cases c1 : m_X8_isSlot x1 = 0
  · rw [if_pos c1]; exact VIS.rf
  rw [if_neg c1] at c ⊢
  by_cases c0 : pV z x1.toNatClampNeg = 0
  · rw [if_pos c0]; exact VIS.rf
  rw [if_neg c0] at c
  by_cases c2 : x1 = 0
  · rw [if_pos c2] at c; exact absurd rfl c
  · rw [if_neg c2] at c; exact absurd rfl c
theorem vis_R {st : StT} : VIS z (pR' z st) := ⟨⟨rfl, rfl⟩, ⟨rfl, rfl, rfl, rfl⟩, ⟨rfl, rfl⟩, fun _ _ => rfl⟩
theorem vi_script_L (x1 : Int32) (x2 : Int64) : ∀ (nF : Nat) (r : SpT) (i : Int32), VIS r (m_X8_runScript_L47 nF r x1 x2 i).2.2 := by
  intro nF
  induction nF with
  | zero => intro r i; exact VIS.rf
  | succ nF ih =>
    intro r i
    rw [m_X8_runScript_L47]
    repeat' split
    all_goals first | exact VIS.rf | exact vis_R | exact vis_R.tr (ih _ _)
theorem vi_runScript {x2 : Int64} : VIS z (m_X8_runScript z x1 x2).2.2 := by
  unfold m_X8_runScript
  repeat' split
  all_goals first | exact VIS.rf | exact vis_R.tr (vi_script_L _ _ _ _ _)
theorem vi_sim_L (x1 : Int64) (x2 : Int32) : ∀ (nF : Nat) (r : SpT) (x : Int64) (i : Int32), VIS r (m_X8_simulate_L36 nF r x1 x2 x i).2.2 := by
  intro nF
  induction nF with
  | zero => intro r x i; exact VIS.rf
  | succ nF ih =>
    intro r x i
    rw [m_X8_simulate_L36]
    repeat' split
    all_goals first | exact VIS.rf | exact vis_R | exact vis_R.tr (ih _ _ _)
theorem vi_simulate {s : Int64} : VIS z (m_X8_simulate z s x2).2.2 := by
  unfold m_X8_simulate
  repeat' split
  all_goals first | exact VIS.rf | exact vis_R.tr (vi_sim_L _ _ _ _ _ _)
end VISQ
