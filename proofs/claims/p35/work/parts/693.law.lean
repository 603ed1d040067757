/-! p35: the fifth step; the law's loop -/
theorem sim_kv {T : Int} {z1 z2 : SpT} {s : Int64} {n : Int32} (h : SIM T z1 z2) (h0 : 100000 ≤ T) (h1 : T ≤ 1000000) : kV (m_X8_simulate z1 s n) = kV (m_X8_simulate z2 s n) := by
  obtain ⟨mo, A, B⟩ := h
  exact (ag_kV (ag_simulate A h1) (ag_simulate B h1) gES_ec).1
theorem scr_kv {T : Int} {z1 z2 : SpT} {s : Int64} {n : Int32} (h : SIM T z1 z2) (h0 : 100000 ≤ T) (h1 : T ≤ 1000000) : kV (m_X8_runScript z1 n s) = kV (m_X8_runScript z2 n s) := by
  obtain ⟨mo, A, B⟩ := h
  exact (ag_kV (ag_runScript A h1) (ag_runScript B h1) gES_ec).1
set_option maxRecDepth 20000 in
theorem w_lb {p : Program} {l : Launch} {e : Env} {s : State} {m : MethodId} {below : List Frame} {meth : Method} {c : Code} {b L : Nat} {xs : Nat → Int32} {D : va_G} {cy : Nat → ClassId} {t : FxA} {A : Nat → Prop} {Q : State → Prop} {xa sa sb tr na : Nat → Nat} {ka : Nat → Nat → Nat} {xb sc sd ts nb : Nat → Nat} {kb : Nat → Nat → Nat} (C0 : LC p l s m meth c b L xs D cy t A) (hL : L ≤ 260) {i : Nat} {x y : Int32} (hx0 : 0 ≤ x.toInt) (hy0 : 0 ≤ y.toInt) {z1 z2 : SpT} {T : Int} (sm : SIM T z1 z2) (g1 : GS T z1) (g2 : GS T z2) (h0 : 100000 ≤ T) (h1 : T ≤ 800000) {cells slots : Nat} (hc : cells + 6300 ≤ 657255) (hs : slots + 37800 ≤ 7129858) {H : Heap} {locs : List Loc} {ls : Array Slot} (hl : lv_has ls 10 [(6, .int y), (5, .int x), (4, .int (nI i)), (3, .int (1 : Int32)), (2, .ref (xb 0)), (1, .ref (xa 0)), (0, .ref b)]) (hP : va_P D vwCl (wSp cy xa sa sb tr na ka z1 ++ wSp cy xb sc sd ts nb kb z2) H) (hD : va_D A (wSp cy xa sa sb tr na ka z1 ++ wSp cy xb sc sd ts nb kb z2)) (hS : va_S A s.heap H locs) (kk : ∀ (ls : Array Slot) (H : Heap) (locs : List Loc) (z1 z2 : SpT), SIM (T + 3000) z1 z2 → GS (T + 3000) z1 → GS (T + 3000) z2 → lv_has ls 10 [(4, .int (nI i)), (3, .int (1 : Int32)), (2, .ref (xb 0)), (1, .ref (xa 0)), (0, .ref b)] → va_P D vwCl (wSp cy xa sa sb tr na ka z1 ++ wSp cy xb sc sd ts nb kb z2) H → va_D A (wSp cy xa sa sb tr na ka z1 ++ wSp cy xb sc sd ts nb kb z2) → va_S A s.heap H locs → Wx p l e room_1 s m #[Value.ref b] below meth c H locs (cells + 6300) (slots + 37800) Q (F0 m 236 ls [])) : Wx p l e room_1 s m #[Value.ref b] below meth c H locs cells slots Q (F0 m 115 ls []) := by
  obtain ⟨hx, hb, hCF, hG, hF, hX, hbl, hbA, hA, hl0, hown⟩ := C0
  have hts := hCF.2.2.2.2
  refine lv_iload_n hx hb dL_law_115 rfl (lv_at hl 3 rfl) ?_
  refine lv_if_eq (tgt := 236) hx hb dL_law_116 (by decide) (fun q => absurd q (by decide)) (fun _ => ?_)
  have q1 := ok_holdP (x := y) (show OK2 T z1 from ⟨by obtain ⟨mo, pa, pb⟩ := sm; exact ⟨mo, pa⟩, g1⟩) h0 (by omega)
  have q2 := ok_holdP (x := y) (show OK2 T z2 from ⟨by obtain ⟨mo, pa, pb⟩ := sm; exact ⟨mo, pb⟩, g2⟩) h0 (by omega)
  have k1 : OK2 T z1 := ⟨by obtain ⟨mo, pa, pb⟩ := sm; exact ⟨mo, pa⟩, g1⟩
  have k2 : OK2 T z2 := ⟨by obtain ⟨mo, pa, pb⟩ := sm; exact ⟨mo, pb⟩, g2⟩
  have s3 := sim_holdP sm h0 (by omega) hy0
  refine lv_aload_n hx hb dL_law_119 rfl (lv_at hl 5 rfl) ?_
  refine lv_iload hx hb dL_law_120 (lv_at hl 0 rfl) ?_
  refine hwS (A0 := A) (As := [.ref (xa 0), .int y]) (rest := []) (W1 := (wSp cy xa sa sb tr na ka z1 ++ wSp cy xb sc sd ts nb kb z2)) (W2 := (wSp cy xa sa sb tr na ka (holdP z1 y) ++ wSp cy xb sc sd ts nb kb z2)) ((c_L_holds l hl0 D cy t xa sa sb tr na ka k1 h0 (by omega) hy0).ctx (List.Perm.refl _) (List.Perm.refl _)) hCF gw_L_holds.lw rfl hq_L_holds ⟨Nat.le_of_ble_eq_true rfl, Nat.le_of_ble_eq_true rfl⟩ hG hF hP hD hS hA h_2 rfl hl.1 rfl (Nat.le_of_ble_eq_true rfl) dL_law_122 ⟨by show _ ≤ 657255; omega, by show _ ≤ 7129858; omega⟩ (fun H locs hP hD hS => ?_)
  refine lv_if_eq (tgt := 141) hx hb dL_law_125 (by decide) (fun q => absurd q (by decide)) (fun _ => ?_)
  refine lv_aload_n hx hb dL_law_128 rfl (lv_at hl 4 rfl) ?_
  refine lv_iload hx hb dL_law_129 (lv_at hl 0 rfl) ?_
  refine hwS (A0 := A) (As := [.ref (xb 0), .int y]) (rest := []) (W1 := (wSp cy xa sa sb tr na ka (holdP z1 y) ++ wSp cy xb sc sd ts nb kb z2)) (W2 := (wSp cy xa sa sb tr na ka (holdP z1 y) ++ wSp cy xb sc sd ts nb kb (holdP z2 y))) ((c_L_holds l hl0 D cy t xb sc sd ts nb kb k2 h0 (by omega) hy0).ctx List.perm_append_comm List.perm_append_comm) hCF gw_L_holds.lw rfl hq_L_holds ⟨Nat.le_of_ble_eq_true rfl, Nat.le_of_ble_eq_true rfl⟩ hG hF hP hD hS hA h_2 rfl hl.1 rfl (Nat.le_of_ble_eq_true rfl) dL_law_131 ⟨by show _ ≤ 657255; omega, by show _ ≤ 7129858; omega⟩ (fun H locs hP hD hS => ?_)
  refine lv_if_eq (tgt := 141) hx hb dL_law_134 (by decide) (fun q => absurd q (by decide)) (fun _ => ?_)
  have g1 := q1.2
  have g2 := q2.2
  clear q1 q2 k1 k2 sm
  generalize holdP z1 y = u1 at *
  generalize holdP z2 y = u2 at *
  have o1 := s3.l (by omega) (by omega)
  have o2 := s3.r (by omega) (by omega)
  refine lv_iconst (v := (1 : Int32)) hx hb dL_law_137 (by decide) ?_
  refine lv_goto (tgt := 142) hx hb dL_law_138 (by decide) ?_
  refine lv_istore_n (lv' := [(3, .int (1 : Int32)), (6, .int y), (5, .int x), (4, .int (nI i)), (2, .ref (xb 0)), (1, .ref (xa 0)), (0, .ref b)]) hx hb dL_law_142 rfl hl (by decide) rfl (fun ls hl => ?_)
  refine lv_iload hx hb dL_law_143 (lv_at hl 2 rfl) ?_
  refine lv_i2l hx hb dL_law_145 rfl ?_
  refine lv_ldc2 (v := (3434250738 : Int64)) hx hb hown (hts _ (WL_lw _ gcl_242).1) dL_law_146 ?_
  refine lv_lmul hx hb dL_law_149 ?_
  refine lv_ldc2 (v := (821 : Int64)) hx hb hown (hts _ (WL_lw _ gcl_244).1) dL_law_150 ?_
  refine lv_lsub hx hb dL_law_153 ?_
  refine lv_lstore (lv' := [(7, .long ((x.toInt64 * (3434250738 : Int64)) - (821 : Int64))), (3, .int (1 : Int32)), (6, .int y), (5, .int x), (4, .int (nI i)), (2, .ref (xb 0)), (1, .ref (xa 0)), (0, .ref b)]) hx hb dL_law_154 hl (by decide) rfl (fun ls hl => ?_)
  refine lv_aload_n hx hb dL_law_156 rfl (lv_at hl 6 rfl) ?_
  refine lv_lload hx hb dL_law_157 (lv_at hl 0 rfl) ?_
  refine lv_iconst (v := (1 : Int32)) hx hb dL_law_159 (by decide) ?_
  refine lv_iload hx hb dL_law_160 (lv_at hl 2 rfl) ?_
  refine lv_bipush (v := (40 : Int32)) hx hb dL_law_162 (by decide) ?_
  refine lv_irem hx hb dL_law_164 (by decide) ?_
  refine lv_iadd hx hb dL_law_165 ?_
  have sv := sim_kv (s := ((x.toInt64 * (3434250738 : Int64)) - (821 : Int64))) (n := ((1 : Int32) + (rmJ y (40 : Int32)))) s3 (by omega) (by omega)
  refine hwSW (A0 := A) (As := [.ref (xa 0), .long ((x.toInt64 * (3434250738 : Int64)) - (821 : Int64)), .int ((1 : Int32) + (rmJ y (40 : Int32)))]) (rest := []) (W1 := (wSp cy xa sa sb tr na ka u1 ++ wSp cy xb sc sd ts nb kb u2)) (W2 := (wSp cy xa sa sb tr na ka (m_X8_simulate u1 ((x.toInt64 * (3434250738 : Int64)) - (821 : Int64)) ((1 : Int32) + (rmJ y (40 : Int32)))).2.2 ++ wSp cy xb sc sd ts nb kb u2)) ((c_L_trySimulate l hl0 D cy t xa sa sb tr na ka o1 ((x.toInt64 * (3434250738 : Int64)) - (821 : Int64)) ((1 : Int32) + (rmJ y (40 : Int32)))).ctx (List.Perm.refl _) (List.Perm.refl _)) hCF gw_L_trySimulate.lw rfl hq_L_trySimulate ⟨Nat.le_of_ble_eq_true rfl, Nat.le_of_ble_eq_true rfl⟩ hG hF hP hD hS hA h_2 rfl hl.1 rfl (Nat.le_of_ble_eq_true rfl) dL_law_166 ⟨by show _ ≤ 657255; omega, by show _ ≤ 7129858; omega⟩ (fun H locs hP hD hS => ?_)
  refine lv_istore (lv' := [(9, .int (kV (m_X8_simulate u1 ((x.toInt64 * (3434250738 : Int64)) - (821 : Int64)) ((1 : Int32) + (rmJ y (40 : Int32)))))), (7, .long ((x.toInt64 * (3434250738 : Int64)) - (821 : Int64))), (3, .int (1 : Int32)), (6, .int y), (5, .int x), (4, .int (nI i)), (2, .ref (xb 0)), (1, .ref (xa 0)), (0, .ref b)]) hx hb dL_law_169 hl (by decide) rfl (fun ls hl => ?_)
  refine lv_iload_n hx hb dL_law_171 rfl (lv_at hl 2 rfl) ?_
  refine lv_if_eq (tgt := 234) hx hb dL_law_172 (by decide) (fun q => absurd q (by decide)) (fun _ => ?_)
  refine lv_iload hx hb dL_law_175 (lv_at hl 0 rfl) ?_
  refine lv_aload_n hx hb dL_law_177 rfl (lv_at hl 6 rfl) ?_
  refine lv_lload hx hb dL_law_178 (lv_at hl 1 rfl) ?_
  refine lv_iconst (v := (1 : Int32)) hx hb dL_law_180 (by decide) ?_
  refine lv_iload hx hb dL_law_181 (lv_at hl 3 rfl) ?_
  refine lv_bipush (v := (40 : Int32)) hx hb dL_law_183 (by decide) ?_
  refine lv_irem hx hb dL_law_185 (by decide) ?_
  refine lv_iadd hx hb dL_law_186 ?_
  refine hwSW (A0 := A) (As := [.ref (xb 0), .long ((x.toInt64 * (3434250738 : Int64)) - (821 : Int64)), .int ((1 : Int32) + (rmJ y (40 : Int32)))]) (rest := [.int (kV (m_X8_simulate u1 ((x.toInt64 * (3434250738 : Int64)) - (821 : Int64)) ((1 : Int32) + (rmJ y (40 : Int32)))))]) (W1 := (wSp cy xa sa sb tr na ka (m_X8_simulate u1 ((x.toInt64 * (3434250738 : Int64)) - (821 : Int64)) ((1 : Int32) + (rmJ y (40 : Int32)))).2.2 ++ wSp cy xb sc sd ts nb kb u2)) (W2 := (wSp cy xa sa sb tr na ka (m_X8_simulate u1 ((x.toInt64 * (3434250738 : Int64)) - (821 : Int64)) ((1 : Int32) + (rmJ y (40 : Int32)))).2.2 ++ wSp cy xb sc sd ts nb kb (m_X8_simulate u2 ((x.toInt64 * (3434250738 : Int64)) - (821 : Int64)) ((1 : Int32) + (rmJ y (40 : Int32)))).2.2)) ((c_L_trySimulate l hl0 D cy t xb sc sd ts nb kb o2 ((x.toInt64 * (3434250738 : Int64)) - (821 : Int64)) ((1 : Int32) + (rmJ y (40 : Int32)))).ctx List.perm_append_comm List.perm_append_comm) hCF gw_L_trySimulate.lw rfl hq_L_trySimulate ⟨Nat.le_of_ble_eq_true rfl, Nat.le_of_ble_eq_true rfl⟩ hG hF hP hD hS hA h_2 rfl hl.1 rfl (Nat.le_of_ble_eq_true rfl) dL_law_187 ⟨by show _ ≤ 657255; omega, by show _ ≤ 7129858; omega⟩ (fun H locs hP hD hS => ?_)
  refine lv_icmp_ne (tgt := 234) hx hb dL_law_190 (by decide) (fun q => absurd sv q) (fun _ => ?_)
  have w1 : VIS u1 (m_X8_simulate u1 ((x.toInt64 * (3434250738 : Int64)) - (821 : Int64)) ((1 : Int32) + (rmJ y (40 : Int32)))).2.2 := vi_simulate
  have w2 : VIS u2 (m_X8_simulate u2 ((x.toInt64 * (3434250738 : Int64)) - (821 : Int64)) ((1 : Int32) + (rmJ y (40 : Int32)))).2.2 := vi_simulate
  have s4 := s3.vis w1 w2
  have g1 := w1.gs g1
  have g2 := w2.gs g2
  have o1 := w1.ok o1
  have o2 := w2.ok o2
  clear w1 w2 sv s3
  generalize (m_X8_simulate u1 ((x.toInt64 * (3434250738 : Int64)) - (821 : Int64)) ((1 : Int32) + (rmJ y (40 : Int32)))).2.2 = v1 at *
  generalize (m_X8_simulate u2 ((x.toInt64 * (3434250738 : Int64)) - (821 : Int64)) ((1 : Int32) + (rmJ y (40 : Int32)))).2.2 = v2 at *
  refine lv_aload_n hx hb dL_law_193 rfl (lv_at hl 7 rfl) ?_
  refine lv_iconst (v := (2 : Int32)) hx hb dL_law_194 (by decide) ?_
  refine lv_iload hx hb dL_law_195 (lv_at hl 3 rfl) ?_
  refine lv_i2l hx hb dL_law_197 rfl ?_
  refine lv_ldc2 (v := (400 : Int64)) hx hb hown (hts _ (WL_lw _ gcl_246).1) dL_law_198 ?_
  refine lv_lmul hx hb dL_law_201 ?_
  have sv := scr_kv (n := 2) (s := (y.toInt64 * (400 : Int64))) s4 (by omega) (by omega)
  refine hwSW (A0 := A) (As := [.ref (xa 0), .int (2 : Int32), .long (y.toInt64 * (400 : Int64))]) (rest := []) (W1 := (wSp cy xa sa sb tr na ka v1 ++ wSp cy xb sc sd ts nb kb v2)) (W2 := (wSp cy xa sa sb tr na ka (m_X8_runScript v1 2 (y.toInt64 * (400 : Int64))).2.2 ++ wSp cy xb sc sd ts nb kb v2)) ((c_L_tryScript l hl0 D cy t xa sa sb tr na ka o1 2 (y.toInt64 * (400 : Int64))).ctx (List.Perm.refl _) (List.Perm.refl _)) hCF gw_L_tryScript.lw rfl hq_L_tryScript ⟨Nat.le_of_ble_eq_true rfl, Nat.le_of_ble_eq_true rfl⟩ hG hF hP hD hS hA h_2 rfl hl.1 rfl (Nat.le_of_ble_eq_true rfl) dL_law_202 ⟨by show _ ≤ 657255; omega, by show _ ≤ 7129858; omega⟩ (fun H locs hP hD hS => ?_)
  refine lv_aload_n hx hb dL_law_205 rfl (lv_at hl 6 rfl) ?_
  refine lv_iconst (v := (2 : Int32)) hx hb dL_law_206 (by decide) ?_
  refine lv_iload hx hb dL_law_207 (lv_at hl 3 rfl) ?_
  refine lv_i2l hx hb dL_law_209 rfl ?_
  refine lv_ldc2 (v := (400 : Int64)) hx hb hown (hts _ (WL_lw _ gcl_246).1) dL_law_210 ?_
  refine lv_lmul hx hb dL_law_213 ?_
  refine hwSW (A0 := A) (As := [.ref (xb 0), .int (2 : Int32), .long (y.toInt64 * (400 : Int64))]) (rest := [.int (kV (m_X8_runScript v1 2 (y.toInt64 * (400 : Int64))))]) (W1 := (wSp cy xa sa sb tr na ka (m_X8_runScript v1 2 (y.toInt64 * (400 : Int64))).2.2 ++ wSp cy xb sc sd ts nb kb v2)) (W2 := (wSp cy xa sa sb tr na ka (m_X8_runScript v1 2 (y.toInt64 * (400 : Int64))).2.2 ++ wSp cy xb sc sd ts nb kb (m_X8_runScript v2 2 (y.toInt64 * (400 : Int64))).2.2)) ((c_L_tryScript l hl0 D cy t xb sc sd ts nb kb o2 2 (y.toInt64 * (400 : Int64))).ctx List.perm_append_comm List.perm_append_comm) hCF gw_L_tryScript.lw rfl hq_L_tryScript ⟨Nat.le_of_ble_eq_true rfl, Nat.le_of_ble_eq_true rfl⟩ hG hF hP hD hS hA h_2 rfl hl.1 rfl (Nat.le_of_ble_eq_true rfl) dL_law_214 ⟨by show _ ≤ 657255; omega, by show _ ≤ 7129858; omega⟩ (fun H locs hP hD hS => ?_)
  refine lv_icmp_ne (tgt := 234) hx hb dL_law_217 (by decide) (fun q => absurd sv q) (fun _ => ?_)
  have w1 : VIS v1 (m_X8_runScript v1 2 (y.toInt64 * (400 : Int64))).2.2 := vi_runScript
  have w2 : VIS v2 (m_X8_runScript v2 2 (y.toInt64 * (400 : Int64))).2.2 := vi_runScript
  have s5 := s4.vis w1 w2
  have g1 := w1.gs g1
  have g2 := w2.gs g2
  clear w1 w2 sv s4
  generalize (m_X8_runScript v1 2 (y.toInt64 * (400 : Int64))).2.2 = t1 at *
  generalize (m_X8_runScript v2 2 (y.toInt64 * (400 : Int64))).2.2 = t2 at *
  refine lv_aload_n hx hb dL_law_220 rfl (lv_at hl 7 rfl) ?_
  refine lv_aload_n hx hb dL_law_221 rfl (lv_at hl 6 rfl) ?_
  refine lv_iload hx hb dL_law_222 (lv_at hl 3 rfl) ?_
  refine hgS (A0 := A) (As := [.ref (xa 0), .ref (xb 0), .int y]) (rest := []) (W1 := (wSp cy xa sa sb tr na ka t1 ++ wSp cy xb sc sd ts nb kb t2)) (w' := (fun (u : SpT × SpT) => (wSp cy xa sa sb tr na ka u.1 ++ wSp cy xb sc sd ts nb kb u.2))) (P9 := (fun r (u : SpT × SpT) => r = 1 ∧ (OKz u.1 ∧ VIS t1 u.1) ∧ (OKz u.2 ∧ VIS t2 u.2))) (c_L_alike l hl0 D cy t xa sa sb tr na ka xb sc sd ts nb kb s5 (by omega) (by omega)) hCF gw_L_alike.lw rfl hq_L_alike ⟨Nat.le_of_ble_eq_true rfl, Nat.le_of_ble_eq_true rfl⟩ hG hF hP hD hS hA (fun _ => h_2) rfl hl.1 rfl (Nat.le_of_ble_eq_true rfl) dL_law_224 ⟨by show _ ≤ 657255; omega, by show _ ≤ 7129858; omega⟩ (fun v uu H locs hv hP hD hS => ?_)
  obtain ⟨rfl, hv⟩ := hv
  refine lv_if_eq (tgt := 234) hx hb dL_law_227 (by decide) (fun q => absurd q (by decide)) (fun _ => ?_)
  have s6 := s5.vis hv.1.2 hv.2.2
  have g1 := hv.1.2.gs g1
  have g2 := hv.2.2.gs g2
  refine lv_iconst (v := (1 : Int32)) hx hb dL_law_230 (by decide) ?_
  refine lv_goto (tgt := 235) hx hb dL_law_231 (by decide) ?_
  refine lv_istore_n (lv' := [(3, .int (1 : Int32)), (9, .int (kV (m_X8_simulate u1 ((x.toInt64 * (3434250738 : Int64)) - (821 : Int64)) ((1 : Int32) + (rmJ y (40 : Int32)))))), (7, .long ((x.toInt64 * (3434250738 : Int64)) - (821 : Int64))), (6, .int y), (5, .int x), (4, .int (nI i)), (2, .ref (xb 0)), (1, .ref (xa 0)), (0, .ref b)]) hx hb dL_law_235 rfl hl (by decide) rfl (fun ls hl => ?_)
  have hl : lv_has ls 10 [(4, .int (nI i)), (3, .int (1 : Int32)), (2, .ref (xb 0)), (1, .ref (xa 0)), (0, .ref b)] := lv_sub hl [5, 0, 6, 7, 8] rfl
  refine W.widen (k := cells + 6300) (n := slots + 37800) (by omega) (by omega) ?_
  exact kk _ _ _ uu.1 uu.2 s6 g1 g2 hl hP hD hS
theorem nn_40 {s j a b c M : Nat} (h : s + c * (j + 1) ≤ M) (e : a + b ≤ c) : s + a + b ≤ M := by
  have : c ≤ c * (j + 1) := Nat.le_mul_of_pos_right c (Nat.succ_pos j)
  omega
theorem nn_41 (s : Nat) : s + 2640 + 37800 ≤ s + 40800 := by omega
set_option maxRecDepth 20000 in
theorem w_ll {p : Program} {l : Launch} {e : Env} {s : State} {m : MethodId} {below : List Frame} {meth : Method} {c : Code} {b L : Nat} {xs : Nat → Int32} {D : va_G} {cy : Nat → ClassId} {t : FxA} {A : Nat → Prop} {Q : State → Prop} {xa sa sb tr na : Nat → Nat} {ka : Nat → Nat → Nat} {xb sc sd ts nb : Nat → Nat} {kb : Nat → Nat → Nat} (C0 : LC p l s m meth c b L xs D cy t A) (hL : L ≤ 260) : ∀ (j i : Nat) (z1 z2 : SpT) (T : Int), i + j = 30 → SIM T z1 z2 → GS T z1 → GS T z2 → 100000 ≤ T → T + 4000 * j ≤ 700000 → ∀ {cells slots : Nat} (hc : cells + 6800 * j ≤ 657255) (hs : slots + 40800 * j ≤ 7129858) {H : Heap} {locs : List Loc} {ls : Array Slot} (hl : lv_has ls 10 [(4, .int (nI i)), (3, .int (1 : Int32)), (2, .ref (xb 0)), (1, .ref (xa 0)), (0, .ref b)]) (hP : va_P D vwCl (wSp cy xa sa sb tr na ka z1 ++ wSp cy xb sc sd ts nb kb z2) H) (hD : va_D A (wSp cy xa sa sb tr na ka z1 ++ wSp cy xb sc sd ts nb kb z2)) (hS : va_S A s.heap H locs) (fin : ∀ (ls : Array Slot) (H : Heap) (locs : List Loc) (z1 z2 : SpT) (cells slots : Nat), cells ≤ 657255 → slots ≤ 7129858 → lv_has ls 10 [(3, .int (1 : Int32))] → va_S A s.heap H locs → Wx p l e room_1 s m #[Value.ref b] below meth c H locs cells slots Q (F0 m 242 ls [])), Wx p l e room_1 s m #[Value.ref b] below meth c H locs cells slots Q (F0 m 21 ls []) := by
  have C1 := C0
  obtain ⟨hx, hb, hCF, hG, hF, hX, hbl, hbA, hA, hl0, hown⟩ := C0
  have hts := hCF.2.2.2.2
  intro j
  induction j with
  | zero =>
    intro i z1 z2 T hi sm g1 g2 h0 h1 cells slots hc hs H locs ls hl hP hD hS fin
    refine lv_iload hx hb dL_law_21 (lv_at hl 0 rfl) ?_
    refine lv_bipush (v := (30 : Int32)) hx hb dL_law_23 (by decide) ?_
    refine lv_icmp_ge (tgt := 242) hx hb dL_law_25 (by decide) (fun _ => ?_) (fun q => absurd (by rw [i32_le, (nI_n (i := i) (by omega)).1, show (30 : Int32).toInt = 30 by decide]; omega) q)
    have hl : lv_has ls 10 [(3, .int (1 : Int32))] := lv_sub hl [1] rfl
    exact fin _ _ _ z1 z2 _ _ (by omega) (by omega) hl hS
  | succ j ih =>
    intro i z1 z2 T hi sm g1 g2 h0 h1 cells slots hc hs H locs ls hl hP hD hS fin
    refine w_la C1 hL (by omega) sm g1 g2 h0 (by omega) (by omega) (by omega) hl hP hD hS (fun ls H locs z1 z2 x y hx0 hy0 sm g1 g2 hl hP hD hS => ?_)
    refine lv_iload hx hb dL_law_107 (lv_at hl 2 rfl) ?_
    refine lv_iconst (v := (5 : Int32)) hx hb dL_law_109 (by decide) ?_
    refine lv_irem hx hb dL_law_110 (by decide) ?_
    refine lv_iconst (v := (4 : Int32)) hx hb dL_law_111 (by decide) ?_
    refine lv_icmp_ne (tgt := 236) hx hb dL_law_112 (by decide) (fun c1 => ?_) (fun c1 => ?_)
    · have hl : lv_has ls 10 [(4, .int (nI i)), (3, .int (1 : Int32)), (2, .ref (xb 0)), (1, .ref (xa 0)), (0, .ref b)] := lv_sub hl [2, 3, 4, 5, 6] rfl
      refine lv_iinc (v := ((nI i) + (1 : Int32))) (lv' := [(4, .int ((nI i) + (1 : Int32))), (3, .int (1 : Int32)), (2, .ref (xb 0)), (1, .ref (xa 0)), (0, .ref b)]) hx hb dL_law_236 hl (k := 0) rfl rfl (by decide) rfl (fun ls hl => ?_)
      refine lv_goto (tgt := 21) hx hb dL_law_239 (by decide) ?_
      have hl : lv_has ls 10 [(4, .int (nI i + (1 : Int32))), (3, .int (1 : Int32)), (2, .ref (xb 0)), (1, .ref (xa 0)), (0, .ref b)] := lv_sub hl [0, 1, 2, 3, 4] rfl
      rw [nI_1] at hl
      refine W.widen (k := cells + 6800) (n := slots + 40800) (by omega) (by omega) ?_
      exact ih (i + 1) _ _ (T + 4000) (by omega) (sm.up (by omega)) (g1.up (by omega)) (g2.up (by omega)) (by omega) (by omega) (by omega) (by omega) hl hP hD hS fin
    · clear c1
      refine w_lb C1 hL hx0 hy0 sm g1 g2 (by omega) (by omega) (by omega) (nn_40 (s := slots) (j := j) (a := 2640) (b := 37800) (c := 40800) (M := 7129858) hs (by decide)) hl hP hD hS (fun ls H locs z1 z2 sm g1 g2 hl hP hD hS => ?_)
      refine lv_iinc (v := ((nI i) + (1 : Int32))) (lv' := [(4, .int ((nI i) + (1 : Int32))), (3, .int (1 : Int32)), (2, .ref (xb 0)), (1, .ref (xa 0)), (0, .ref b)]) hx hb dL_law_236 hl (k := 0) rfl rfl (by decide) rfl (fun ls hl => ?_)
      refine lv_goto (tgt := 21) hx hb dL_law_239 (by decide) ?_
      have hl : lv_has ls 10 [(4, .int (nI i + (1 : Int32))), (3, .int (1 : Int32)), (2, .ref (xb 0)), (1, .ref (xa 0)), (0, .ref b)] := lv_sub hl [0, 1, 2, 3, 4] rfl
      rw [nI_1] at hl
      refine W.widen (k := cells + 6800) (n := slots + 40800) (by omega) (nn_41 slots) ?_
      exact ih (i + 1) _ _ (T + 4000) (by omega) (sm.up (by omega)) (g1.up (by omega)) (g2.up (by omega)) (by omega) (by omega) (by omega) (by omega) hl hP hD hS fin
