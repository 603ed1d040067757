/-! p35: the contract of refuses -/
theorem fe_vis2 {z z1 : SpT} (h0 : OKz z) (v : VIS z z1) : (m_X6_firstError (pT z1)).1 = (m_X6_firstError (pT z)).1 := by
  obtain ⟨T, mo, -, -, H⟩ := h0
  exact (ag_errorPosition (v.pr H)).2.trans (ag_errorPosition H).2.symm
set_option maxRecDepth 20000 in
theorem w_ref13 {p : Program} {l : Launch} {e : Env} {s : State} {m : MethodId} {below : List Frame} {meth : Method} {c : Code} {D : va_G} {cy : Nat → ClassId} {t : FxA} {A : Nat → Prop} {xa sa sb tr na : Nat → Nat} {ka : Nat → Nat → Nat} {z : SpT} {x : Int32} (C0 : LR p l s m meth c ([.ref (xa 0), .int x] : List Value).toArray cL_refuses 8 wc_refuses (some .boolean) D cy t A) {cells slots : Nat} (hc : cells + 1 ≤ 100) (hs : slots + 6 ≤ 600) {H : Heap} {locs : List Loc} {ls : Array Slot} {z1 : SpT} (hl : lv_has ls 8 [(3, .int (1 : Int32)), (0, .ref (xa 0)), (1, .int x)]) (o1 : OKz z1 ∧ VIS z z1) (hP : va_P D vwCl (wSp cy xa sa sb tr na ka z1) H) (hD : va_D A (wSp cy xa sa sb tr na ka z1)) (hS : va_S A s.heap H locs) : @Wx p l e ({ frames := 10, cells := 100, slots := 600, locals := 300 } : Room) s m ([.ref (xa 0), .int x] : List Value).toArray below meth c H locs cells slots (MQ below (va_Qi (fun r (z2 : SpT) => r = 1 ∧ (OKz z2 ∧ VIS z z2)) (fun z2 t => va_P D vwCl (wSp cy xa sa sb tr na ka z2) t.heap) A) ([.ref (xa 0), .int x] : List Value).toArray s 100 600 A) (F0 m 1063 ls []) := by
  obtain ⟨hx, hb, hr, hlocks, hts, hown, hCF, hG, hF, hA, hl0⟩ := C0
  refine lv_aload_n hx hb dL_refuses_1063 rfl (lv_at hl 1 rfl) ?_
  refine fwV (ci := 6) (A0 := A) (As := []) (rest := []) (W1 := (wSp cy xa sa sb tr na ka z1)) (W2 := (wSp cy xa sa sb tr na ka (pT' z1 (m_X6_firstError (pT z1)).2))) (c_X8_errorPosition l D cy t xa sa sb tr na ka z1 o1.1.tl) hCF gw_X8_errorPosition.more rfl hq_X8_errorPosition ⟨rfl, rfl, Nat.le_of_ble_eq_true rfl, Nat.le_of_ble_eq_true rfl⟩ hG hF hP hD hS hA h_Sp rfl rfl (List.mem_of_getElem? g_Sp_0) rfl hl.1 rfl (Nat.le_of_ble_eq_true rfl) dL_refuses_1064 ⟨by show _ ≤ 100; omega, by show _ ≤ 600; omega⟩ (fun H locs hP hD hS => ?_)
  have o2 : OKz (pT' z1 (m_X6_firstError (pT z1)).2) ∧ VIS z (pT' z1 (m_X6_firstError (pT z1)).2) := ⟨fe_vis.ok o1.1, o1.2.tr fe_vis⟩
  have e2 : (m_X6_firstError (pT (pT' z1 (m_X6_firstError (pT z1)).2))).1 = (m_X6_firstError (pT z1)).1 := fe_vis2 o1.1 fe_vis
  generalize pT' z1 (m_X6_firstError (pT z1)).2 = z2 at *
  refine lv_iconst (v := (-1 : Int32)) hx hb dL_refuses_1067 (by decide) ?_
  refine lv_icmp_eq (tgt := 1084) hx hb dL_refuses_1068 (by decide) (fun c1 => ?_) (fun c1 => ?_)
  · refine lv_iconst (v := (1 : Int32)) hx hb dL_refuses_1084 (by decide) ?_
    refine lv_goto (tgt := 1089) hx hb dL_refuses_1085 (by decide) ?_
    exact hg_zret hx hb hr hlocks (by decide) z2 ⟨rfl, o2⟩ rfl hP hS (by omega) (by omega) dL_refuses_1089
  · refine lv_aload_n hx hb dL_refuses_1071 rfl (lv_at hl 1 rfl) ?_
    refine lv_iconst (v := (1 : Int32)) hx hb dL_refuses_1072 (by decide) ?_
    refine lv_iconst (v := (0 : Int32)) hx hb dL_refuses_1073 (by decide) ?_
    refine lv_iconst (v := (0 : Int32)) hx hb dL_refuses_1074 (by decide) ?_
    refine lv_iconst (v := (0 : Int32)) hx hb dL_refuses_1075 (by decide) ?_
    obtain ⟨z3, o3, hq⟩ := cn_1 l hl0 D cy t xa sa sb tr na ka o2 (0 : Int32) (0 : Int32) (0 : Int32) (v := (-9999003)) (r3_1 (f_load (by rw [e2]; exact c1)))
    refine hwS (A0 := A) (As := [.ref (xa 0), .int (1 : Int32), .int (0 : Int32), .int (0 : Int32), .int (0 : Int32)]) (rest := []) (W1 := (wSp cy xa sa sb tr na ka z2)) (W2 := (wSp cy xa sa sb tr na ka z3)) hq hCF gw_L_call.more rfl hq_L_call ⟨Nat.le_of_ble_eq_true rfl, Nat.le_of_ble_eq_true rfl⟩ hG hF hP hD hS hA h_Sp rfl hl.1 rfl (Nat.le_of_ble_eq_true rfl) dL_refuses_1076 ⟨by show _ ≤ 100; omega, by show _ ≤ 600; omega⟩ (fun H locs hP hD hS => ?_)
    refine lv_ldc (v := (-9999003 : Int32)) hx hb hown (hts _ (List.mem_cons_of_mem _ gc_21)) dL_refuses_1079 ?_
    refine lv_icmp_ne (tgt := 1088) hx hb dL_refuses_1081 (by decide) (fun q => absurd rfl q) (fun _ => ?_)
    refine lv_iconst (v := (1 : Int32)) hx hb dL_refuses_1084 (by decide) ?_
    refine lv_goto (tgt := 1089) hx hb dL_refuses_1085 (by decide) ?_
    exact hg_zret hx hb hr hlocks (by decide) z3 ⟨rfl, o3⟩ rfl hP hS (by omega) (by omega) dL_refuses_1089
theorem ok_q7 {z : SpT} (h0 : OKz z) : ∀ u : Int32, ¬ m_X7_has (sU (pN z)) u = 0 → iv 0 7 (uQ (sU (pN z)) u.toNatClampNeg) := by
  obtain ⟨T, mo, -, -, H⟩ := h0
  intro u hu
  have h1 := hs_has hu
  have ok := H.st.1
  have u2 := ok.2
  obtain ⟨-, -, -, a4, -, -⟩ := H.2.1.1.1.2 u.toNatClampNeg (by rw [tnc_d, tnc_d]; omega)
  rw [← a4]
  exact (H.2.1.2.1.2.1 u.toNatClampNeg (by rw [tnc_d]; omega)).2.2.2
set_option maxRecDepth 20000 in
theorem c_L_refuses (l : Launch) (hl0 : l.stackTraces = false) (D : va_G) (cy : Nat → ClassId) (t : FxA) (xa sa sb tr na : Nat → Nat) (ka : Nat → Nat → Nat) {z : SpT} (h0 : OKz z) {T : Int} (g : SG T (pN z)) {x : Int32} (hx0 : 0 ≤ x.toInt) : HG 10 100 600 300 l D cy t yL_refuses wc_refuses (wSp cy xa sa sb tr na ka z) (wSp cy xa sa sb tr na ka) (fun r (z2 : SpT) => r = 1 ∧ (OKz z2 ∧ VIS z z2)) [.ref (xa 0), .int x] := by
  refine HG.body (by decide) rfl (Nat.le_of_ble_eq_true rfl) ?_
  intro p e s m below meth c hx hb hml hr hts hown hlocks hP hG ls hl A hD hA hS hF
  have hl : lv_has ls 8 [(0, .ref (xa 0)), (1, .int x)] := hl
  have hCF : CallFix p m c cL_refuses 8 s ([.ref (xa 0), .int x] : List Value).toArray wc_refuses RL := ⟨hx, hb, hml, hown, hts⟩
  have C0 : LR p l s m meth c ([.ref (xa 0), .int x] : List Value).toArray cL_refuses 8 wc_refuses (some .boolean) D cy t A := ⟨hx, hb, hr, hlocks, hts, hown, hCF, hG, hF, hA, hl0⟩
  have hq7 : ∀ u : Int32, ¬ m_X7_has (sU (pN z)) u = 0 → iv 0 7 (uQ (sU (pN z)) u.toNatClampNeg) := ok_q7 h0
  refine w_ref1 C0 hx0 h0 g (by omega) (by omega) hl ⟨h0, VIS.rf⟩ hP hD hS (fun ls H locs z1 hl o1 hP hD hS => ?_)
  refine w_ref2 C0 hx0 h0 g (by omega) (by omega) hl o1 hP hD hS (fun ls H locs z1 hl o1 hP hD hS => ?_)
  refine w_ref3 C0 hx0 h0 g (by omega) (by omega) hl o1 hP hD hS (fun ls H locs z1 hl o1 hP hD hS => ?_)
  refine w_ref4 C0 hx0 h0 g (by omega) (by omega) hl o1 hP hD hS (fun ls H locs z1 hl o1 hP hD hS => ?_)
  refine w_ref5 C0 hx0 h0 g (by omega) (by omega) hl o1 hP hD hS (fun ls H locs z1 hl o1 hP hD hS => ?_)
  refine lv_iload_n hx hb dL_refuses_682 rfl (lv_at hl 1 rfl) ?_
  refine lv_if_le (tgt := 1003) hx hb dL_refuses_683 (by decide) (fun c1 => ?_) (fun c1 => ?_)
  · have hl : lv_has ls 8 [(3, .int (1 : Int32)), (0, .ref (xa 0)), (1, .int x)] := lv_sub hl [0, 2, 3] rfl
    refine w_ref12 C0 hx0 h0 g (by omega) (by omega) hl o1 hP hD hS (fun ls H locs z1 hl o1 hP hD hS => ?_)
    exact w_ref13 C0 (by omega) (by omega) hl o1 hP hD hS
  have u16 := h0.st.1
  have np : 0 < (uN (sU (pN z))).toInt := by rw [i32_le, i32_0] at c1; omega
  have nz : ¬ uN (sU (pN z)) = 0 := fun e => by rw [e, i32_0] at np; omega
  have hu : ¬ m_X7_has (sU (pN z)) (rmJ x (uN (sU (pN z)))) = 0 := is_has (by rw [rmJ_n hx0 rfl np]; exact ⟨Int.emod_nonneg _ (by omega), Int.emod_lt_of_pos _ np⟩)
  have hq8 := hq7 _ hu
  refine w_ref6 C0 hx0 h0 g hu nz (by omega) (by omega) hl o1 hP hD hS (fun ls H locs z1 fr hl hfr o1 hP hD hS => ?_)
  refine w_ref7 C0 hx0 h0 g hu nz hfr (by omega) (by omega) hl o1 hP hD hS (fun ls H locs z1 hl o1 hP hD hS => ?_)
  refine w_ref8 C0 hx0 h0 g hu nz hfr (by omega) (by omega) hl o1 hP hD hS (fun ls H locs z1 hl o1 hP hD hS => ?_)
  refine w_ref9 C0 hx0 h0 g hu nz hfr (by omega) (by omega) hl o1 hP hD hS (fun ls H locs z1 hl o1 hP hD hS => ?_)
  refine w_ref10 C0 hx0 h0 g hu nz hfr hq8 (by omega) (by omega) hl o1 hP hD hS (fun ls H locs z1 hl o1 hP hD hS => ?_)
  refine w_ref11 C0 hx0 h0 g hu nz hfr (by omega) (by omega) hl o1 hP hD hS (fun ls H locs z1 hl o1 hP hD hS => ?_)
  refine w_ref12 C0 hx0 h0 g (by omega) (by omega) hl o1 hP hD hS (fun ls H locs z1 hl o1 hP hD hS => ?_)
  exact w_ref13 C0 (by omega) (by omega) hl o1 hP hD hS
