def m_X9_about_L33 : Nat → MoT → Int32 → Int32 → Int32 → Int32 → Int32 × MoT
  | 0, mo, _, _, _, _ => (0, mo)
  | nF + 1, mo, x1, lo, la, u => if ((mN mo) (1 : Int32).toNatClampNeg) ≤ u then if x1 = (0 : Int32) then ((mN mo) x1.toNatClampNeg, mR' mo (0 : Int32)) else if x1 = (1 : Int32) then ((mN mo) x1.toNatClampNeg, mR' mo (0 : Int32)) else if x1 = (2 : Int32) then (m_X9_usable (mN mo), mR' mo (0 : Int32)) else if x1 = (3 : Int32) then (lo, mR' mo (0 : Int32)) else if x1 = (4 : Int32) then (la, mR' mo (0 : Int32)) else if x1 = (5 : Int32) then (m_X9_coresOwed (mN mo), mR' mo (0 : Int32)) else if x1 = (6 : Int32) then (m_X9_partsOwed (mN mo) (-1 : Int32) (-1 : Int32), mR' mo (0 : Int32)) else if x1 = (7 : Int32) then ((mN mo) (6 : Int32).toNatClampNeg, mR' mo (0 : Int32)) else if x1 = (8 : Int32) then ((mN mo) (7 : Int32).toNatClampNeg, mR' mo (0 : Int32)) else ((mN mo) (5 : Int32).toNatClampNeg, mR' mo (0 : Int32)) else if (m_X9_isFree (mN mo) u) = (0 : Int32) then if ((mN mo) (0 : Int32).toNatClampNeg) ≤ (m_X9_of (mN mo) u (4 : Int32)) then m_X9_about_L33 nF mo x1 (lo + (1 : Int32)) (la + (0 : Int32)) (u + (1 : Int32)) else m_X9_about_L33 nF mo x1 (lo + (1 : Int32)) (la + (1 : Int32)) (u + (1 : Int32)) else m_X9_about_L33 nF mo x1 (lo + (0 : Int32)) (la + (0 : Int32)) (u + (1 : Int32))
def m_X9_about (mo : MoT) (x1 : Int32) : Int32 × MoT := if (m_X9_in x1.toInt64 (0 : Int64) (9 : Int64)) = (0 : Int32) then ((0 : Int32), mR' mo (1 : Int32)) else m_X9_about_L33 100 mo x1 (0 : Int32) (0 : Int32) (0 : Int32)
theorem hd_X9_about : yX9_about.cls = RX9 ∧ yX9_about.cls ≠ "java/lang/invoke/MethodHandle" ∧ yX9_about.cls ≠ "java/lang/invoke/VarHandle" ∧ (parseMethodDescriptor yX9_about.desc).map (fun d => d.parameters.length) = some 1 := by decide +kernel
set_option maxHeartbeats 8000000 in
set_option maxRecDepth 20000 in
theorem c_X9_about (l : Launch) (D : va_G) (cy : Nat → ClassId) (a0 a1 a2 a3 a4 a5 a6 : Nat) (mo : MoT) (x1 : Int32) (hM : rOK (mN mo)) : MU l D cy yX9_about wsX9_about ({ frames := 2, cells := 0, slots := 0, locals := 49 } : Room) (wMo cy a0 a1 a2 a3 a4 a5 a6 mo) (wMo cy a0 a1 a2 a3 a4 a5 a6 (m_X9_about mo x1).2) [.ref a0, .int x1] (m_X9_about mo x1).1 := by
  refine MU.body (by decide) rfl (Nat.le_of_ble_eq_true rfl) ?_
  intro p e s m below meth c hx hb hml hr hts hown hlocks hP hG ls hl A hD hA hS
  have hl : lv_has ls 5 [(0, .ref a0), (1, .int x1)] := hl
  have hCF : CallFix p m c cX9_about 5 s ([.ref a0, .int x1] : List Value).toArray wsX9_about RX9 := ⟨hx, hb, hml, hown, hts⟩
  have in_X9 : ∀ w ∈ u_ws RX9 TX9 11, w ∈ wsX9_about := fun _ h => List.mem_cons_of_mem _ (List.mem_append_right _ h)
  have k_0 := hts (Cond.fieldLink RX9 13 "SparePoolModel" "now" "[I") (List.mem_of_getElem? (i := 2) rfl)
  have k_1 := hts (Cond.constantLong RX9 122 (9)) (List.mem_of_getElem? (i := 1) rfl)
  have hP : va_P D vwCl (wMo cy a0 a1 a2 a3 a4 a5 a6 mo) s.heap := hP
  have L_33 : ∀ (nF : Nat) (lo : Int32) (la : Int32) (u : Int32), 0 ≤ u.toInt → (((mN mo) (1 : Int32).toNatClampNeg).toInt - u.toInt).toNat < nF → m_X9_about_L33 nF mo x1 lo la u = (m_X9_about mo x1) → ∀ (H : Heap) (locs : List Loc), va_P D vwCl (wMo cy a0 a1 a2 a3 a4 a5 a6 (mR' mo (0 : Int32))) H → va_D A (wMo cy a0 a1 a2 a3 a4 a5 a6 (mR' mo (0 : Int32))) → va_S A s.heap H locs → ∀ ls : Array Slot, lv_has ls 5 [(0, .ref a0), (1, .int x1), (2, .int lo), (3, .int la), (4, .int u)] → W p l e ({ frames := 2, cells := 0, slots := 0, locals := 49 } : Room) s m ([.ref a0, .int x1] : List Value).toArray below meth c H locs 0 0 (MQ below (va_Qi (fun v_ (_ : Unit) => v_ = (m_X9_about mo x1).1) (fun _ t => va_P D vwCl (wMo cy a0 a1 a2 a3 a4 a5 a6 (m_X9_about mo x1).2) t.heap) A) ([.ref a0, .int x1] : List Value).toArray s 0 0 A) (F0 m 33 ls []) := by
    intro nF
    induction nF with
    | zero => intro lo la u h0 hm; exact absurd hm (Nat.not_lt_zero _)
    | succ nF ih =>
      intro lo la u h0 hm hQ H locs hP hD hS ls hl
      refine lv_iload hx hb dX9_about_33 (lv_at hl 4 rfl) ?_
      refine lv_aload_n hx hb dX9_about_35 rfl (lv_at hl 0 rfl) ?_
      refine va_get (D := D) (ci := 7) (v := .ref a2) (C := RX9) (T := TX9) (N := 11) hx hb hts in_X9 hown hG.1 hP 0 g_Mo_0 rfl 3 (by decide) k_0 (fun _ h9 => h9) rfl dX9_about_36 ?_
      refine lv_iconst (v := (1 : Int32)) hx hb dX9_about_39 (by decide) ?_
      refine va_iald hx hb hG.1 hP 2 0 (n := 383) (f := (mN mo)) g_Mo_2 rfl (bd_of (by decide) (by decide)) dX9_about_40 ?_
      refine lv_icmp_ge (tgt := 109) hx hb dX9_about_41 (by decide) (fun c_1 => ?_) (fun c_1 => ?_)
      · skip
        refine lv_iload_n hx hb dX9_about_109 rfl (lv_at hl 1 rfl) ?_
        by_cases c_2 : x1 = (0 : Int32)
        · refine lv_tableIn (tgt := 160) hx hb dX9_about_110 (by rw [c_2]; decide) (by rw [c_2]; decide) (by rw [c_2]; rfl) (by decide) ?_
          refine lv_aload_n hx hb dX9_about_160 rfl (lv_at hl 0 rfl) ?_
          refine va_get (D := D) (ci := 7) (v := .ref a2) (C := RX9) (T := TX9) (N := 11) hx hb hts in_X9 hown hG.1 hP 0 g_Mo_0 rfl 3 (by decide) k_0 (fun _ h9 => h9) rfl dX9_about_161 ?_
          refine lv_iload_n hx hb dX9_about_164 rfl (lv_at hl 1 rfl) ?_
          refine va_iald hx hb hG.1 hP 2 0 (n := 383) (f := (mN mo)) g_Mo_2 rfl (iv_in (iv_eq (v := 0) c_2 (by decide)) (by decide) (by decide)) dX9_about_165 ?_
          exact mu_iret hx hb hr hlocks hP hS dX9_about_166 (by rw [← hQ, m_X9_about_L33, if_pos c_1, if_pos c_2]) (by rw [← hQ, m_X9_about_L33, if_pos c_1, if_pos c_2])
        by_cases c_3 : x1 = (1 : Int32)
        · refine lv_tableIn (tgt := 160) hx hb dX9_about_110 (by rw [c_3]; decide) (by rw [c_3]; decide) (by rw [c_3]; rfl) (by decide) ?_
          refine lv_aload_n hx hb dX9_about_160 rfl (lv_at hl 0 rfl) ?_
          refine va_get (D := D) (ci := 7) (v := .ref a2) (C := RX9) (T := TX9) (N := 11) hx hb hts in_X9 hown hG.1 hP 0 g_Mo_0 rfl 3 (by decide) k_0 (fun _ h9 => h9) rfl dX9_about_161 ?_
          refine lv_iload_n hx hb dX9_about_164 rfl (lv_at hl 1 rfl) ?_
          refine va_iald hx hb hG.1 hP 2 0 (n := 383) (f := (mN mo)) g_Mo_2 rfl (iv_in (iv_eq (v := 1) c_3 (by decide)) (by decide) (by decide)) dX9_about_165 ?_
          exact mu_iret hx hb hr hlocks hP hS dX9_about_166 (by rw [← hQ, m_X9_about_L33, if_pos c_1, if_neg c_2, if_pos c_3]) (by rw [← hQ, m_X9_about_L33, if_pos c_1, if_neg c_2, if_pos c_3])
        by_cases c_4 : x1 = (2 : Int32)
        · refine lv_tableIn (tgt := 167) hx hb dX9_about_110 (by rw [c_4]; decide) (by rw [c_4]; decide) (by rw [c_4]; rfl) (by decide) ?_
          refine lv_aload_n hx hb dX9_about_167 rfl (lv_at hl 0 rfl) ?_
          refine va_get (D := D) (ci := 7) (v := .ref a2) (C := RX9) (T := TX9) (N := 11) hx hb hts in_X9 hown hG.1 hP 0 g_Mo_0 rfl 3 (by decide) k_0 (fun _ h9 => h9) rfl dX9_about_168 ?_
          refine roS (wc := (wAr cy a2 (mN mo))) (As := [.ref a2]) (rest := []) (c_X9_usable l D cy a2 (mN mo) hM) hCF gX9_about_X9_usable rfl hd_X9_usable ⟨rfl, rfl, Nat.le_of_ble_eq_true rfl, Nat.le_of_ble_eq_true rfl⟩ hG (hP.sub (ws' := (wAr cy a2 (mN mo))) [2] u_Mo_Ar2) rfl hl.1 rfl (Nat.le_of_ble_eq_true rfl) dX9_about_171 ⟨Nat.le_refl _, Nat.le_refl _⟩ ?_
          exact mu_iret hx hb hr hlocks hP hS dX9_about_174 (by rw [← hQ, m_X9_about_L33, if_pos c_1, if_neg c_2, if_neg c_3, if_pos c_4]) (by rw [← hQ, m_X9_about_L33, if_pos c_1, if_neg c_2, if_neg c_3, if_pos c_4])
        by_cases c_5 : x1 = (3 : Int32)
        · refine lv_tableIn (tgt := 175) hx hb dX9_about_110 (by rw [c_5]; decide) (by rw [c_5]; decide) (by rw [c_5]; rfl) (by decide) ?_
          refine lv_iload_n hx hb dX9_about_175 rfl (lv_at hl 2 rfl) ?_
          exact mu_iret hx hb hr hlocks hP hS dX9_about_176 (by rw [← hQ, m_X9_about_L33, if_pos c_1, if_neg c_2, if_neg c_3, if_neg c_4, if_pos c_5]) (by rw [← hQ, m_X9_about_L33, if_pos c_1, if_neg c_2, if_neg c_3, if_neg c_4, if_pos c_5])
        by_cases c_6 : x1 = (4 : Int32)
        · refine lv_tableIn (tgt := 177) hx hb dX9_about_110 (by rw [c_6]; decide) (by rw [c_6]; decide) (by rw [c_6]; rfl) (by decide) ?_
          refine lv_iload_n hx hb dX9_about_177 rfl (lv_at hl 3 rfl) ?_
          exact mu_iret hx hb hr hlocks hP hS dX9_about_178 (by rw [← hQ, m_X9_about_L33, if_pos c_1, if_neg c_2, if_neg c_3, if_neg c_4, if_neg c_5, if_pos c_6]) (by rw [← hQ, m_X9_about_L33, if_pos c_1, if_neg c_2, if_neg c_3, if_neg c_4, if_neg c_5, if_pos c_6])
        by_cases c_7 : x1 = (5 : Int32)
        · refine lv_tableIn (tgt := 179) hx hb dX9_about_110 (by rw [c_7]; decide) (by rw [c_7]; decide) (by rw [c_7]; rfl) (by decide) ?_
          refine lv_aload_n hx hb dX9_about_179 rfl (lv_at hl 0 rfl) ?_
          refine va_get (D := D) (ci := 7) (v := .ref a2) (C := RX9) (T := TX9) (N := 11) hx hb hts in_X9 hown hG.1 hP 0 g_Mo_0 rfl 3 (by decide) k_0 (fun _ h9 => h9) rfl dX9_about_180 ?_
          refine roS (wc := (wAr cy a2 (mN mo))) (As := [.ref a2]) (rest := []) (c_X9_coresOwed l D cy a2 (mN mo)) hCF gX9_about_X9_coresOwed rfl hd_X9_coresOwed ⟨rfl, rfl, Nat.le_of_ble_eq_true rfl, Nat.le_of_ble_eq_true rfl⟩ hG (hP.sub (ws' := (wAr cy a2 (mN mo))) [2] u_Mo_Ar2) rfl hl.1 rfl (Nat.le_of_ble_eq_true rfl) dX9_about_183 ⟨Nat.le_refl _, Nat.le_refl _⟩ ?_
          exact mu_iret hx hb hr hlocks hP hS dX9_about_186 (by rw [← hQ, m_X9_about_L33, if_pos c_1, if_neg c_2, if_neg c_3, if_neg c_4, if_neg c_5, if_neg c_6, if_pos c_7]) (by rw [← hQ, m_X9_about_L33, if_pos c_1, if_neg c_2, if_neg c_3, if_neg c_4, if_neg c_5, if_neg c_6, if_pos c_7])
        by_cases c_8 : x1 = (6 : Int32)
        · refine lv_tableIn (tgt := 187) hx hb dX9_about_110 (by rw [c_8]; decide) (by rw [c_8]; decide) (by rw [c_8]; rfl) (by decide) ?_
          refine lv_aload_n hx hb dX9_about_187 rfl (lv_at hl 0 rfl) ?_
          refine va_get (D := D) (ci := 7) (v := .ref a2) (C := RX9) (T := TX9) (N := 11) hx hb hts in_X9 hown hG.1 hP 0 g_Mo_0 rfl 3 (by decide) k_0 (fun _ h9 => h9) rfl dX9_about_188 ?_
          refine lv_iconst (v := (-1 : Int32)) hx hb dX9_about_191 (by decide) ?_
          refine lv_iconst (v := (-1 : Int32)) hx hb dX9_about_192 (by decide) ?_
          refine roS (wc := (wAr cy a2 (mN mo))) (As := [.ref a2, .int (-1 : Int32), .int (-1 : Int32)]) (rest := []) (c_X9_partsOwed l D cy a2 (mN mo) (-1 : Int32) (-1 : Int32)) hCF gX9_about_X9_partsOwed rfl hd_X9_partsOwed ⟨rfl, rfl, Nat.le_of_ble_eq_true rfl, Nat.le_of_ble_eq_true rfl⟩ hG (hP.sub (ws' := (wAr cy a2 (mN mo))) [2] u_Mo_Ar2) rfl hl.1 rfl (Nat.le_of_ble_eq_true rfl) dX9_about_193 ⟨Nat.le_refl _, Nat.le_refl _⟩ ?_
          exact mu_iret hx hb hr hlocks hP hS dX9_about_196 (by rw [← hQ, m_X9_about_L33, if_pos c_1, if_neg c_2, if_neg c_3, if_neg c_4, if_neg c_5, if_neg c_6, if_neg c_7, if_pos c_8]) (by rw [← hQ, m_X9_about_L33, if_pos c_1, if_neg c_2, if_neg c_3, if_neg c_4, if_neg c_5, if_neg c_6, if_neg c_7, if_pos c_8])
        by_cases c_9 : x1 = (7 : Int32)
        · refine lv_tableIn (tgt := 197) hx hb dX9_about_110 (by rw [c_9]; decide) (by rw [c_9]; decide) (by rw [c_9]; rfl) (by decide) ?_
          refine lv_aload_n hx hb dX9_about_197 rfl (lv_at hl 0 rfl) ?_
          refine va_get (D := D) (ci := 7) (v := .ref a2) (C := RX9) (T := TX9) (N := 11) hx hb hts in_X9 hown hG.1 hP 0 g_Mo_0 rfl 3 (by decide) k_0 (fun _ h9 => h9) rfl dX9_about_198 ?_
          refine lv_bipush (v := (6 : Int32)) hx hb dX9_about_201 (by decide) ?_
          refine va_iald hx hb hG.1 hP 2 0 (n := 383) (f := (mN mo)) g_Mo_2 rfl (bd_of (by decide) (by decide)) dX9_about_203 ?_
          exact mu_iret hx hb hr hlocks hP hS dX9_about_204 (by rw [← hQ, m_X9_about_L33, if_pos c_1, if_neg c_2, if_neg c_3, if_neg c_4, if_neg c_5, if_neg c_6, if_neg c_7, if_neg c_8, if_pos c_9]) (by rw [← hQ, m_X9_about_L33, if_pos c_1, if_neg c_2, if_neg c_3, if_neg c_4, if_neg c_5, if_neg c_6, if_neg c_7, if_neg c_8, if_pos c_9])
        by_cases c_10 : x1 = (8 : Int32)
        · refine lv_tableIn (tgt := 205) hx hb dX9_about_110 (by rw [c_10]; decide) (by rw [c_10]; decide) (by rw [c_10]; rfl) (by decide) ?_
          refine lv_aload_n hx hb dX9_about_205 rfl (lv_at hl 0 rfl) ?_
          refine va_get (D := D) (ci := 7) (v := .ref a2) (C := RX9) (T := TX9) (N := 11) hx hb hts in_X9 hown hG.1 hP 0 g_Mo_0 rfl 3 (by decide) k_0 (fun _ h9 => h9) rfl dX9_about_206 ?_
          refine lv_bipush (v := (7 : Int32)) hx hb dX9_about_209 (by decide) ?_
          refine va_iald hx hb hG.1 hP 2 0 (n := 383) (f := (mN mo)) g_Mo_2 rfl (bd_of (by decide) (by decide)) dX9_about_211 ?_
          exact mu_iret hx hb hr hlocks hP hS dX9_about_212 (by rw [← hQ, m_X9_about_L33, if_pos c_1, if_neg c_2, if_neg c_3, if_neg c_4, if_neg c_5, if_neg c_6, if_neg c_7, if_neg c_8, if_neg c_9, if_pos c_10]) (by rw [← hQ, m_X9_about_L33, if_pos c_1, if_neg c_2, if_neg c_3, if_neg c_4, if_neg c_5, if_neg c_6, if_neg c_7, if_neg c_8, if_neg c_9, if_pos c_10])
        · refine lv_tableOut (tgt := 213) hx hb dX9_about_110 (by have q_2 := lv_neT (a := 0) c_2 rfl; have q_3 := lv_neT (a := 1) c_3 rfl; have q_4 := lv_neT (a := 2) c_4 rfl; have q_5 := lv_neT (a := 3) c_5 rfl; have q_6 := lv_neT (a := 4) c_6 rfl; have q_7 := lv_neT (a := 5) c_7 rfl; have q_8 := lv_neT (a := 6) c_8 rfl; have q_9 := lv_neT (a := 7) c_9 rfl; have q_10 := lv_neT (a := 8) c_10 rfl; omega) (by decide) ?_
          refine lv_aload_n hx hb dX9_about_213 rfl (lv_at hl 0 rfl) ?_
          refine va_get (D := D) (ci := 7) (v := .ref a2) (C := RX9) (T := TX9) (N := 11) hx hb hts in_X9 hown hG.1 hP 0 g_Mo_0 rfl 3 (by decide) k_0 (fun _ h9 => h9) rfl dX9_about_214 ?_
          refine lv_iconst (v := (5 : Int32)) hx hb dX9_about_217 (by decide) ?_
          refine va_iald hx hb hG.1 hP 2 0 (n := 383) (f := (mN mo)) g_Mo_2 rfl (bd_of (by decide) (by decide)) dX9_about_218 ?_
          exact mu_iret hx hb hr hlocks hP hS dX9_about_219 (by rw [← hQ, m_X9_about_L33, if_pos c_1, if_neg c_2, if_neg c_3, if_neg c_4, if_neg c_5, if_neg c_6, if_neg c_7, if_neg c_8, if_neg c_9, if_neg c_10]) (by rw [← hQ, m_X9_about_L33, if_pos c_1, if_neg c_2, if_neg c_3, if_neg c_4, if_neg c_5, if_neg c_6, if_neg c_7, if_neg c_8, if_neg c_9, if_neg c_10])
      · skip
        refine lv_iload_n hx hb dX9_about_44 rfl (lv_at hl 2 rfl) ?_
        refine lv_aload_n hx hb dX9_about_45 rfl (lv_at hl 0 rfl) ?_
        refine va_get (D := D) (ci := 7) (v := .ref a2) (C := RX9) (T := TX9) (N := 11) hx hb hts in_X9 hown hG.1 hP 0 g_Mo_0 rfl 3 (by decide) k_0 (fun _ h9 => h9) rfl dX9_about_46 ?_
        refine lv_iload hx hb dX9_about_49 (lv_at hl 4 rfl) ?_
        refine roS (wc := (wAr cy a2 (mN mo))) (As := [.ref a2, .int u]) (rest := [.int lo]) (c_X9_isFree l D cy a2 (mN mo) u (iv_loop (M := 16) (h := 15) h0 c_1 ((rk_many hM).2) (by decide))) hCF gX9_about_X9_isFree rfl hd_X9_isFree ⟨rfl, rfl, Nat.le_of_ble_eq_true rfl, Nat.le_of_ble_eq_true rfl⟩ hG (hP.sub (ws' := (wAr cy a2 (mN mo))) [2] u_Mo_Ar2) rfl hl.1 rfl (Nat.le_of_ble_eq_true rfl) dX9_about_51 ⟨Nat.le_refl _, Nat.le_refl _⟩ ?_
        refine lv_if_eq (tgt := 61) hx hb dX9_about_54 (by decide) (fun c_11 => ?_) (fun c_11 => ?_)
        · skip
          refine lv_iconst (v := (1 : Int32)) hx hb dX9_about_61 (by decide) ?_
          refine lv_iadd hx hb dX9_about_62 ?_
          refine lv_istore_n (lv' := [(2, .int (lo + (1 : Int32))), (0, .ref a0), (1, .int x1), (3, .int la), (4, .int u)]) hx hb dX9_about_63 rfl hl (by decide) rfl (fun ls hl => ?_)
          refine lv_iload_n hx hb dX9_about_64 rfl (lv_at hl 3 rfl) ?_
          refine lv_aload_n hx hb dX9_about_65 rfl (lv_at hl 1 rfl) ?_
          refine va_get (D := D) (ci := 7) (v := .ref a2) (C := RX9) (T := TX9) (N := 11) hx hb hts in_X9 hown hG.1 hP 0 g_Mo_0 rfl 3 (by decide) k_0 (fun _ h9 => h9) rfl dX9_about_66 ?_
          refine lv_iload hx hb dX9_about_69 (lv_at hl 4 rfl) ?_
          refine roS (wc := (wAr cy a2 (mN mo))) (As := [.ref a2, .int u]) (rest := [.int la]) (c_X9_isFree l D cy a2 (mN mo) u (iv_loop (M := 16) (h := 15) h0 c_1 ((rk_many hM).2) (by decide))) hCF gX9_about_X9_isFree rfl hd_X9_isFree ⟨rfl, rfl, Nat.le_of_ble_eq_true rfl, Nat.le_of_ble_eq_true rfl⟩ hG (hP.sub (ws' := (wAr cy a2 (mN mo))) [2] u_Mo_Ar2) rfl hl.1 rfl (Nat.le_of_ble_eq_true rfl) dX9_about_71 ⟨Nat.le_refl _, Nat.le_refl _⟩ ?_
          refine lv_if_ne (tgt := 100) hx hb dX9_about_74 (by decide) (fun c => absurd c_11 c) (fun _ => ?_)
          refine lv_aload_n hx hb dX9_about_77 rfl (lv_at hl 1 rfl) ?_
          refine va_get (D := D) (ci := 7) (v := .ref a2) (C := RX9) (T := TX9) (N := 11) hx hb hts in_X9 hown hG.1 hP 0 g_Mo_0 rfl 3 (by decide) k_0 (fun _ h9 => h9) rfl dX9_about_78 ?_
          refine lv_iload hx hb dX9_about_81 (lv_at hl 4 rfl) ?_
          refine lv_iconst (v := (4 : Int32)) hx hb dX9_about_83 (by decide) ?_
          refine roS (wc := (wAr cy a2 (mN mo))) (As := [.ref a2, .int u, .int (4 : Int32)]) (rest := [.int la]) (c_X9_of l D cy a2 (mN mo) u (4 : Int32) (iv_loop (M := 16) (h := 15) h0 c_1 ((rk_many hM).2) (by decide)) (iv_wide (l2 := 0) (h2 := 4) (iv_lit (v := 4) (by decide)) (by decide))) hCF gX9_about_X9_of rfl hd_X9_of ⟨rfl, rfl, Nat.le_of_ble_eq_true rfl, Nat.le_of_ble_eq_true rfl⟩ hG (hP.sub (ws' := (wAr cy a2 (mN mo))) [2] u_Mo_Ar2) rfl hl.1 rfl (Nat.le_of_ble_eq_true rfl) dX9_about_84 ⟨Nat.le_refl _, Nat.le_refl _⟩ ?_
          refine lv_aload_n hx hb dX9_about_87 rfl (lv_at hl 1 rfl) ?_
          refine va_get (D := D) (ci := 7) (v := .ref a2) (C := RX9) (T := TX9) (N := 11) hx hb hts in_X9 hown hG.1 hP 0 g_Mo_0 rfl 3 (by decide) k_0 (fun _ h9 => h9) rfl dX9_about_88 ?_
          refine lv_iconst (v := (0 : Int32)) hx hb dX9_about_91 (by decide) ?_
          refine va_iald hx hb hG.1 hP 2 0 (n := 383) (f := (mN mo)) g_Mo_2 rfl (bd_of (by decide) (by decide)) dX9_about_92 ?_
          refine lv_icmp_ge (tgt := 100) hx hb dX9_about_93 (by decide) (fun c_12 => ?_) (fun c_12 => ?_)
          · skip
            refine lv_iconst (v := (0 : Int32)) hx hb dX9_about_100 (by decide) ?_
            refine lv_iadd hx hb dX9_about_101 ?_
            refine lv_istore_n (lv' := [(3, .int (la + (0 : Int32))), (2, .int (lo + (1 : Int32))), (0, .ref a0), (1, .int x1), (4, .int u)]) hx hb dX9_about_102 rfl hl (by decide) rfl (fun ls hl => ?_)
            refine lv_iinc (v := (u + (1 : Int32))) (lv' := [(4, .int (u + (1 : Int32))), (3, .int (la + (0 : Int32))), (2, .int (lo + (1 : Int32))), (0, .ref a0), (1, .int x1)]) hx hb dX9_about_103 hl (k := 4) rfl rfl (by decide) rfl (fun ls hl => ?_)
            refine lv_goto (tgt := 33) hx hb dX9_about_106 (by decide) ?_
            exact ih  (lo + (1 : Int32)) (la + (0 : Int32)) (u + (1 : Int32)) (lp_up h0 c_1) (lp_dec h0 c_1 hm) (by rw [← hQ, m_X9_about_L33, if_neg c_1, if_pos c_11, if_pos c_12]) H locs hP hD hS ls (lv_sub hl [3, 4, 2, 1, 0] rfl)
          · skip
            refine lv_iconst (v := (1 : Int32)) hx hb dX9_about_96 (by decide) ?_
            refine lv_goto (tgt := 101) hx hb dX9_about_97 (by decide) ?_
            refine lv_iadd hx hb dX9_about_101 ?_
            refine lv_istore_n (lv' := [(3, .int (la + (1 : Int32))), (2, .int (lo + (1 : Int32))), (0, .ref a0), (1, .int x1), (4, .int u)]) hx hb dX9_about_102 rfl hl (by decide) rfl (fun ls hl => ?_)
            refine lv_iinc (v := (u + (1 : Int32))) (lv' := [(4, .int (u + (1 : Int32))), (3, .int (la + (1 : Int32))), (2, .int (lo + (1 : Int32))), (0, .ref a0), (1, .int x1)]) hx hb dX9_about_103 hl (k := 4) rfl rfl (by decide) rfl (fun ls hl => ?_)
            refine lv_goto (tgt := 33) hx hb dX9_about_106 (by decide) ?_
            exact ih  (lo + (1 : Int32)) (la + (1 : Int32)) (u + (1 : Int32)) (lp_up h0 c_1) (lp_dec h0 c_1 hm) (by rw [← hQ, m_X9_about_L33, if_neg c_1, if_pos c_11, if_neg c_12]) H locs hP hD hS ls (lv_sub hl [3, 4, 2, 1, 0] rfl)
        · skip
          refine lv_iconst (v := (0 : Int32)) hx hb dX9_about_57 (by decide) ?_
          refine lv_goto (tgt := 62) hx hb dX9_about_58 (by decide) ?_
          refine lv_iadd hx hb dX9_about_62 ?_
          refine lv_istore_n (lv' := [(2, .int (lo + (0 : Int32))), (0, .ref a0), (1, .int x1), (3, .int la), (4, .int u)]) hx hb dX9_about_63 rfl hl (by decide) rfl (fun ls hl => ?_)
          refine lv_iload_n hx hb dX9_about_64 rfl (lv_at hl 3 rfl) ?_
          refine lv_aload_n hx hb dX9_about_65 rfl (lv_at hl 1 rfl) ?_
          refine va_get (D := D) (ci := 7) (v := .ref a2) (C := RX9) (T := TX9) (N := 11) hx hb hts in_X9 hown hG.1 hP 0 g_Mo_0 rfl 3 (by decide) k_0 (fun _ h9 => h9) rfl dX9_about_66 ?_
          refine lv_iload hx hb dX9_about_69 (lv_at hl 4 rfl) ?_
          refine roS (wc := (wAr cy a2 (mN mo))) (As := [.ref a2, .int u]) (rest := [.int la]) (c_X9_isFree l D cy a2 (mN mo) u (iv_loop (M := 16) (h := 15) h0 c_1 ((rk_many hM).2) (by decide))) hCF gX9_about_X9_isFree rfl hd_X9_isFree ⟨rfl, rfl, Nat.le_of_ble_eq_true rfl, Nat.le_of_ble_eq_true rfl⟩ hG (hP.sub (ws' := (wAr cy a2 (mN mo))) [2] u_Mo_Ar2) rfl hl.1 rfl (Nat.le_of_ble_eq_true rfl) dX9_about_71 ⟨Nat.le_refl _, Nat.le_refl _⟩ ?_
          refine lv_if_ne (tgt := 100) hx hb dX9_about_74 (by decide) (fun _ => ?_) (fun c => absurd c c_11)
          refine lv_iconst (v := (0 : Int32)) hx hb dX9_about_100 (by decide) ?_
          refine lv_iadd hx hb dX9_about_101 ?_
          refine lv_istore_n (lv' := [(3, .int (la + (0 : Int32))), (2, .int (lo + (0 : Int32))), (0, .ref a0), (1, .int x1), (4, .int u)]) hx hb dX9_about_102 rfl hl (by decide) rfl (fun ls hl => ?_)
          refine lv_iinc (v := (u + (1 : Int32))) (lv' := [(4, .int (u + (1 : Int32))), (3, .int (la + (0 : Int32))), (2, .int (lo + (0 : Int32))), (0, .ref a0), (1, .int x1)]) hx hb dX9_about_103 hl (k := 4) rfl rfl (by decide) rfl (fun ls hl => ?_)
          refine lv_goto (tgt := 33) hx hb dX9_about_106 (by decide) ?_
          exact ih  (lo + (0 : Int32)) (la + (0 : Int32)) (u + (1 : Int32)) (lp_up h0 c_1) (lp_dec h0 c_1 hm) (by rw [← hQ, m_X9_about_L33, if_neg c_1, if_neg c_11]) H locs hP hD hS ls (lv_sub hl [3, 4, 2, 1, 0] rfl)
  refine lv_aload_n hx hb dX9_about_0 rfl (lv_at hl 0 rfl) ?_
  refine lv_iload_n hx hb dX9_about_1 rfl (lv_at hl 1 rfl) ?_
  refine lv_i2l hx hb dX9_about_2 rfl ?_
  refine lv_lconst (v := (0 : Int64)) hx hb dX9_about_3 (by decide) ?_
  refine lv_ldc2 (v := (9 : Int64)) hx hb hown k_1 dX9_about_4 ?_
  refine roS (wc := ([] : va_W)) (As := [.long x1.toInt64, .long (0 : Int64), .long (9 : Int64)]) (rest := [.ref a0]) (c_X9_in l D cy x1.toInt64 (0 : Int64) (9 : Int64)) hCF gX9_about_X9_in rfl hd_X9_in ⟨rfl, rfl, Nat.le_of_ble_eq_true rfl, Nat.le_of_ble_eq_true rfl⟩ hG va_P_nil rfl hl.1 rfl (Nat.le_of_ble_eq_true rfl) dX9_about_7 ⟨Nat.le_refl _, Nat.le_refl _⟩ ?_
  refine lv_if_eq (tgt := 17) hx hb dX9_about_10 (by decide) (fun c_13 => ?_) (fun c_13 => ?_)
  · skip
    refine lv_iconst (v := (1 : Int32)) hx hb dX9_about_17 (by decide) ?_
    refine muV (A0 := A) (wc := (wMo cy a0 a1 a2 a3 a4 a5 a6 mo)) (As := [.int (1 : Int32)]) (rest := []) (c_X9_refused l D cy a0 a1 a2 a3 a4 a5 a6 mo (1 : Int32)) hCF gX9_about_X9_refused rfl hd_X9_refused ⟨rfl, rfl, Nat.le_of_ble_eq_true rfl, Nat.le_of_ble_eq_true rfl⟩ hG hP hD hS hA [0, 1, 2, 3, 4, 5, 6] rfl c_Mo_Mo h_Mo (ci := 7) rfl rfl g_Mo_0 rfl hl.1 rfl (Nat.le_of_ble_eq_true rfl) dX9_about_18 ⟨Nat.le_refl _, Nat.le_refl _⟩ (fun H locs hP hD hS => ?_)
    have hP : va_P D vwCl (wMo cy a0 a1 a2 a3 a4 a5 a6 (mR' mo (1 : Int32))) H := va_P_eq hP r_Mo_Mo
    have hD : va_D A (wMo cy a0 a1 a2 a3 a4 a5 a6 (mR' mo (1 : Int32))) := va_D_eq hD r_Mo_Mo
    refine lv_if_eq (tgt := 26) hx hb dX9_about_21 (by decide) (fun c => absurd c (rf_lit1 _)) (fun _ => ?_)
    refine lv_iconst (v := (0 : Int32)) hx hb dX9_about_24 (by decide) ?_
    exact mu_iret hx hb hr hlocks hP hS dX9_about_25 (by rw [m_X9_about, if_pos c_13]) (by rw [m_X9_about, if_pos c_13])
  · skip
    refine lv_iconst (v := (0 : Int32)) hx hb dX9_about_13 (by decide) ?_
    refine lv_goto (tgt := 18) hx hb dX9_about_14 (by decide) ?_
    refine muV (A0 := A) (wc := (wMo cy a0 a1 a2 a3 a4 a5 a6 mo)) (As := [.int (0 : Int32)]) (rest := []) (c_X9_refused l D cy a0 a1 a2 a3 a4 a5 a6 mo (0 : Int32)) hCF gX9_about_X9_refused rfl hd_X9_refused ⟨rfl, rfl, Nat.le_of_ble_eq_true rfl, Nat.le_of_ble_eq_true rfl⟩ hG hP hD hS hA [0, 1, 2, 3, 4, 5, 6] rfl c_Mo_Mo h_Mo (ci := 7) rfl rfl g_Mo_0 rfl hl.1 rfl (Nat.le_of_ble_eq_true rfl) dX9_about_18 ⟨Nat.le_refl _, Nat.le_refl _⟩ (fun H locs hP hD hS => ?_)
    have hP : va_P D vwCl (wMo cy a0 a1 a2 a3 a4 a5 a6 (mR' mo (0 : Int32))) H := va_P_eq hP r_Mo_Mo
    have hD : va_D A (wMo cy a0 a1 a2 a3 a4 a5 a6 (mR' mo (0 : Int32))) := va_D_eq hD r_Mo_Mo
    refine lv_if_eq (tgt := 26) hx hb dX9_about_21 (by decide) (fun _ => ?_) (fun c => absurd (rf_lit0 _) c)
    refine lv_iconst (v := (0 : Int32)) hx hb dX9_about_26 (by decide) ?_
    refine lv_istore_n (lv' := [(2, .int (0 : Int32)), (0, .ref a0), (1, .int x1)]) hx hb dX9_about_27 rfl hl (by decide) rfl (fun ls hl => ?_)
    refine lv_iconst (v := (0 : Int32)) hx hb dX9_about_28 (by decide) ?_
    refine lv_istore_n (lv' := [(3, .int (0 : Int32)), (2, .int (0 : Int32)), (0, .ref a0), (1, .int x1)]) hx hb dX9_about_29 rfl hl (by decide) rfl (fun ls hl => ?_)
    refine lv_iconst (v := (0 : Int32)) hx hb dX9_about_30 (by decide) ?_
    refine lv_istore (lv' := [(4, .int (0 : Int32)), (3, .int (0 : Int32)), (2, .int (0 : Int32)), (0, .ref a0), (1, .int x1)]) hx hb dX9_about_31 hl (by decide) rfl (fun ls hl => ?_)
    exact L_33 100 (0 : Int32) (0 : Int32) (0 : Int32) (by decide) (lp_init (M := 16) (rk_many hM).2 (by decide)) (by rw [m_X9_about, if_neg c_13]) H locs hP hD hS ls (lv_sub hl [3, 4, 2, 1, 0] rfl)
def m_X9_unit (mo : MoT) (x1 : Int32) (x2 : Int32) : Int32 × MoT := if (m_X9_isUnit (mN mo) x1) = (0 : Int32) then ((0 : Int32), mR' mo (1 : Int32)) else if (m_X9_in x2.toInt64 (0 : Int64) (5 : Int64)) = (0 : Int32) then ((0 : Int32), mR' mo (2 : Int32)) else if (4 : Int32) ≤ x2 then if x2 = (5 : Int32) then (m_X9_lateOf (mN mo) x1 (0 : Int32), mR' mo (0 : Int32)) else if (m_X9_isFree (mN mo) x1) = (0 : Int32) then (m_X9_of (mN mo) x1 (4 : Int32), mR' mo (0 : Int32)) else ((-1 : Int32), mR' mo (0 : Int32)) else (m_X9_of (mN mo) x1 x2, mR' mo (0 : Int32))
theorem hd_X9_unit : yX9_unit.cls = RX9 ∧ yX9_unit.cls ≠ "java/lang/invoke/MethodHandle" ∧ yX9_unit.cls ≠ "java/lang/invoke/VarHandle" ∧ (parseMethodDescriptor yX9_unit.desc).map (fun d => d.parameters.length) = some 2 := by decide +kernel
set_option maxHeartbeats 8000000 in
set_option maxRecDepth 20000 in
theorem c_X9_unit (l : Launch) (D : va_G) (cy : Nat → ClassId) (a0 a1 a2 a3 a4 a5 a6 : Nat) (mo : MoT) (x1 : Int32) (x2 : Int32) (hM : rOK (mN mo)) : MU l D cy yX9_unit wsX9_unit ({ frames := 3, cells := 0, slots := 0, locals := 65 } : Room) (wMo cy a0 a1 a2 a3 a4 a5 a6 mo) (wMo cy a0 a1 a2 a3 a4 a5 a6 (m_X9_unit mo x1 x2).2) [.ref a0, .int x1, .int x2] (m_X9_unit mo x1 x2).1 := by
  refine MU.body (by decide) rfl (Nat.le_of_ble_eq_true rfl) ?_
  intro p e s m below meth c hx hb hml hr hts hown hlocks hP hG ls hl A hD hA hS
  have hl : lv_has ls 3 [(0, .ref a0), (1, .int x1), (2, .int x2)] := hl
  have hCF : CallFix p m c cX9_unit 3 s ([.ref a0, .int x1, .int x2] : List Value).toArray wsX9_unit RX9 := ⟨hx, hb, hml, hown, hts⟩
  have in_X9 : ∀ w ∈ u_ws RX9 TX9 11, w ∈ wsX9_unit := fun _ h => List.mem_cons_of_mem _ (List.mem_append_right _ h)
  have k_0 := hts (Cond.fieldLink RX9 13 "SparePoolModel" "now" "[I") (List.mem_of_getElem? (i := 1) rfl)
  have k_1 := hts (Cond.constantLong RX9 213 (5)) (List.mem_of_getElem? (i := 2) rfl)
  have hP : va_P D vwCl (wMo cy a0 a1 a2 a3 a4 a5 a6 mo) s.heap := hP
  refine lv_aload_n hx hb dX9_unit_0 rfl (lv_at hl 0 rfl) ?_
  refine lv_aload_n hx hb dX9_unit_1 rfl (lv_at hl 0 rfl) ?_
  refine va_get (D := D) (ci := 7) (v := .ref a2) (C := RX9) (T := TX9) (N := 11) hx hb hts in_X9 hown hG.1 hP 0 g_Mo_0 rfl 3 (by decide) k_0 (fun _ h9 => h9) rfl dX9_unit_2 ?_
  refine lv_iload_n hx hb dX9_unit_5 rfl (lv_at hl 1 rfl) ?_
  refine roS (wc := (wAr cy a2 (mN mo))) (As := [.ref a2, .int x1]) (rest := [.ref a0]) (c_X9_isUnit l D cy a2 (mN mo) x1) hCF gX9_unit_X9_isUnit rfl hd_X9_isUnit ⟨rfl, rfl, Nat.le_of_ble_eq_true rfl, Nat.le_of_ble_eq_true rfl⟩ hG (hP.sub (ws' := (wAr cy a2 (mN mo))) [2] u_Mo_Ar2) rfl hl.1 rfl (Nat.le_of_ble_eq_true rfl) dX9_unit_6 ⟨Nat.le_refl _, Nat.le_refl _⟩ ?_
  refine lv_if_ne (tgt := 16) hx hb dX9_unit_9 (by decide) (fun c_1 => ?_) (fun c_1 => ?_)
  · skip
    refine lv_iload_n hx hb dX9_unit_16 rfl (lv_at hl 2 rfl) ?_
    refine lv_i2l hx hb dX9_unit_17 rfl ?_
    refine lv_lconst (v := (0 : Int64)) hx hb dX9_unit_18 (by decide) ?_
    refine lv_ldc2 (v := (5 : Int64)) hx hb hown k_1 dX9_unit_19 ?_
    refine roS (wc := ([] : va_W)) (As := [.long x2.toInt64, .long (0 : Int64), .long (5 : Int64)]) (rest := [.ref a0]) (c_X9_in l D cy x2.toInt64 (0 : Int64) (5 : Int64)) hCF gX9_unit_X9_in rfl hd_X9_in ⟨rfl, rfl, Nat.le_of_ble_eq_true rfl, Nat.le_of_ble_eq_true rfl⟩ hG va_P_nil rfl hl.1 rfl (Nat.le_of_ble_eq_true rfl) dX9_unit_22 ⟨Nat.le_refl _, Nat.le_refl _⟩ ?_
    refine lv_if_eq (tgt := 32) hx hb dX9_unit_25 (by decide) (fun c_2 => ?_) (fun c_2 => ?_)
    · skip
      refine lv_iconst (v := (2 : Int32)) hx hb dX9_unit_32 (by decide) ?_
      refine muV (A0 := A) (wc := (wMo cy a0 a1 a2 a3 a4 a5 a6 mo)) (As := [.int (2 : Int32)]) (rest := []) (c_X9_refused l D cy a0 a1 a2 a3 a4 a5 a6 mo (2 : Int32)) hCF gX9_unit_X9_refused rfl hd_X9_refused ⟨rfl, rfl, Nat.le_of_ble_eq_true rfl, Nat.le_of_ble_eq_true rfl⟩ hG hP hD hS hA [0, 1, 2, 3, 4, 5, 6] rfl c_Mo_Mo h_Mo (ci := 7) rfl rfl g_Mo_0 rfl hl.1 rfl (Nat.le_of_ble_eq_true rfl) dX9_unit_33 ⟨Nat.le_refl _, Nat.le_refl _⟩ (fun H locs hP hD hS => ?_)
      have hP : va_P D vwCl (wMo cy a0 a1 a2 a3 a4 a5 a6 (mR' mo (2 : Int32))) H := va_P_eq hP r_Mo_Mo
      have hD : va_D A (wMo cy a0 a1 a2 a3 a4 a5 a6 (mR' mo (2 : Int32))) := va_D_eq hD r_Mo_Mo
      refine lv_if_eq (tgt := 41) hx hb dX9_unit_36 (by decide) (fun c => absurd c (rf_lit2 _)) (fun _ => ?_)
      refine lv_iconst (v := (0 : Int32)) hx hb dX9_unit_39 (by decide) ?_
      exact mu_iret hx hb hr hlocks hP hS dX9_unit_40 (by rw [m_X9_unit, if_neg c_1, if_pos c_2]) (by rw [m_X9_unit, if_neg c_1, if_pos c_2])
    · skip
      refine lv_iconst (v := (0 : Int32)) hx hb dX9_unit_28 (by decide) ?_
      refine lv_goto (tgt := 33) hx hb dX9_unit_29 (by decide) ?_
      refine muV (A0 := A) (wc := (wMo cy a0 a1 a2 a3 a4 a5 a6 mo)) (As := [.int (0 : Int32)]) (rest := []) (c_X9_refused l D cy a0 a1 a2 a3 a4 a5 a6 mo (0 : Int32)) hCF gX9_unit_X9_refused rfl hd_X9_refused ⟨rfl, rfl, Nat.le_of_ble_eq_true rfl, Nat.le_of_ble_eq_true rfl⟩ hG hP hD hS hA [0, 1, 2, 3, 4, 5, 6] rfl c_Mo_Mo h_Mo (ci := 7) rfl rfl g_Mo_0 rfl hl.1 rfl (Nat.le_of_ble_eq_true rfl) dX9_unit_33 ⟨Nat.le_refl _, Nat.le_refl _⟩ (fun H locs hP hD hS => ?_)
      have hP : va_P D vwCl (wMo cy a0 a1 a2 a3 a4 a5 a6 (mR' mo (0 : Int32))) H := va_P_eq hP r_Mo_Mo
      have hD : va_D A (wMo cy a0 a1 a2 a3 a4 a5 a6 (mR' mo (0 : Int32))) := va_D_eq hD r_Mo_Mo
      refine lv_if_eq (tgt := 41) hx hb dX9_unit_36 (by decide) (fun _ => ?_) (fun c => absurd (rf_lit0 _) c)
      refine lv_iload_n hx hb dX9_unit_41 rfl (lv_at hl 2 rfl) ?_
      refine lv_iconst (v := (4 : Int32)) hx hb dX9_unit_42 (by decide) ?_
      refine lv_icmp_ge (tgt := 58) hx hb dX9_unit_43 (by decide) (fun c_3 => ?_) (fun c_3 => ?_)
      · skip
        refine lv_iload_n hx hb dX9_unit_58 rfl (lv_at hl 2 rfl) ?_
        refine lv_iconst (v := (5 : Int32)) hx hb dX9_unit_59 (by decide) ?_
        refine lv_icmp_ne (tgt := 75) hx hb dX9_unit_60 (by decide) (fun c_4 => ?_) (fun c_4 => ?_)
        · skip
          refine lv_aload_n hx hb dX9_unit_75 rfl (lv_at hl 0 rfl) ?_
          refine va_get (D := D) (ci := 7) (v := .ref a2) (C := RX9) (T := TX9) (N := 11) hx hb hts in_X9 hown hG.1 hP 0 g_Mo_0 rfl 3 (by decide) k_0 (fun _ h9 => h9) rfl dX9_unit_76 ?_
          refine lv_iload_n hx hb dX9_unit_79 rfl (lv_at hl 1 rfl) ?_
          refine roS (wc := (wAr cy a2 (mN mo))) (As := [.ref a2, .int x1]) (rest := []) (c_X9_isFree l D cy a2 (mN mo) x1 (iv_isUnit hM c_1)) hCF gX9_unit_X9_isFree rfl hd_X9_isFree ⟨rfl, rfl, Nat.le_of_ble_eq_true rfl, Nat.le_of_ble_eq_true rfl⟩ hG (hP.sub (ws' := (wAr cy a2 (mN mo))) [2] u_Mo_Ar2) rfl hl.1 rfl (Nat.le_of_ble_eq_true rfl) dX9_unit_80 ⟨Nat.le_refl _, Nat.le_refl _⟩ ?_
          refine lv_if_eq (tgt := 90) hx hb dX9_unit_83 (by decide) (fun c_5 => ?_) (fun c_5 => ?_)
          · skip
            refine lv_aload_n hx hb dX9_unit_90 rfl (lv_at hl 0 rfl) ?_
            refine va_get (D := D) (ci := 7) (v := .ref a2) (C := RX9) (T := TX9) (N := 11) hx hb hts in_X9 hown hG.1 hP 0 g_Mo_0 rfl 3 (by decide) k_0 (fun _ h9 => h9) rfl dX9_unit_91 ?_
            refine lv_iload_n hx hb dX9_unit_94 rfl (lv_at hl 1 rfl) ?_
            refine lv_iconst (v := (4 : Int32)) hx hb dX9_unit_95 (by decide) ?_
            refine roS (wc := (wAr cy a2 (mN mo))) (As := [.ref a2, .int x1, .int (4 : Int32)]) (rest := []) (c_X9_of l D cy a2 (mN mo) x1 (4 : Int32) (iv_isUnit hM c_1) (iv_wide (l2 := 0) (h2 := 4) (iv_lit (v := 4) (by decide)) (by decide))) hCF gX9_unit_X9_of rfl hd_X9_of ⟨rfl, rfl, Nat.le_of_ble_eq_true rfl, Nat.le_of_ble_eq_true rfl⟩ hG (hP.sub (ws' := (wAr cy a2 (mN mo))) [2] u_Mo_Ar2) rfl hl.1 rfl (Nat.le_of_ble_eq_true rfl) dX9_unit_96 ⟨Nat.le_refl _, Nat.le_refl _⟩ ?_
            exact mu_iret hx hb hr hlocks hP hS dX9_unit_99 (by rw [m_X9_unit, if_neg c_1, if_neg c_2, if_pos c_3, if_neg c_4, if_pos c_5]) (by rw [m_X9_unit, if_neg c_1, if_neg c_2, if_pos c_3, if_neg c_4, if_pos c_5])
          · skip
            refine lv_iconst (v := (-1 : Int32)) hx hb dX9_unit_86 (by decide) ?_
            refine lv_goto (tgt := 99) hx hb dX9_unit_87 (by decide) ?_
            exact mu_iret hx hb hr hlocks hP hS dX9_unit_99 (by rw [m_X9_unit, if_neg c_1, if_neg c_2, if_pos c_3, if_neg c_4, if_neg c_5]) (by rw [m_X9_unit, if_neg c_1, if_neg c_2, if_pos c_3, if_neg c_4, if_neg c_5])
        · skip
          refine lv_aload_n hx hb dX9_unit_63 rfl (lv_at hl 0 rfl) ?_
          refine va_get (D := D) (ci := 7) (v := .ref a2) (C := RX9) (T := TX9) (N := 11) hx hb hts in_X9 hown hG.1 hP 0 g_Mo_0 rfl 3 (by decide) k_0 (fun _ h9 => h9) rfl dX9_unit_64 ?_
          refine lv_iload_n hx hb dX9_unit_67 rfl (lv_at hl 1 rfl) ?_
          refine lv_iconst (v := (0 : Int32)) hx hb dX9_unit_68 (by decide) ?_
          refine roS (wc := (wAr cy a2 (mN mo))) (As := [.ref a2, .int x1, .int (0 : Int32)]) (rest := []) (c_X9_lateOf l D cy a2 (mN mo) x1 (0 : Int32) (iv_isUnit hM c_1)) hCF gX9_unit_X9_lateOf rfl hd_X9_lateOf ⟨rfl, rfl, Nat.le_of_ble_eq_true rfl, Nat.le_of_ble_eq_true rfl⟩ hG (hP.sub (ws' := (wAr cy a2 (mN mo))) [2] u_Mo_Ar2) rfl hl.1 rfl (Nat.le_of_ble_eq_true rfl) dX9_unit_69 ⟨Nat.le_refl _, Nat.le_refl _⟩ ?_
          refine lv_goto (tgt := 99) hx hb dX9_unit_72 (by decide) ?_
          exact mu_iret hx hb hr hlocks hP hS dX9_unit_99 (by rw [m_X9_unit, if_neg c_1, if_neg c_2, if_pos c_3, if_pos c_4]) (by rw [m_X9_unit, if_neg c_1, if_neg c_2, if_pos c_3, if_pos c_4])
      · skip
        refine lv_aload_n hx hb dX9_unit_46 rfl (lv_at hl 0 rfl) ?_
        refine va_get (D := D) (ci := 7) (v := .ref a2) (C := RX9) (T := TX9) (N := 11) hx hb hts in_X9 hown hG.1 hP 0 g_Mo_0 rfl 3 (by decide) k_0 (fun _ h9 => h9) rfl dX9_unit_47 ?_
        refine lv_iload_n hx hb dX9_unit_50 rfl (lv_at hl 1 rfl) ?_
        refine lv_iload_n hx hb dX9_unit_51 rfl (lv_at hl 2 rfl) ?_
        refine roS (wc := (wAr cy a2 (mN mo))) (As := [.ref a2, .int x1, .int x2]) (rest := []) (c_X9_of l D cy a2 (mN mo) x1 x2 (iv_isUnit hM c_1) (iv_wide (l2 := 0) (h2 := 4) (iv_cut2 (h := 3) (iv_min (lo := 0) (hi := 5) c_2) c_3 (by decide)) (by decide))) hCF gX9_unit_X9_of rfl hd_X9_of ⟨rfl, rfl, Nat.le_of_ble_eq_true rfl, Nat.le_of_ble_eq_true rfl⟩ hG (hP.sub (ws' := (wAr cy a2 (mN mo))) [2] u_Mo_Ar2) rfl hl.1 rfl (Nat.le_of_ble_eq_true rfl) dX9_unit_52 ⟨Nat.le_refl _, Nat.le_refl _⟩ ?_
        refine lv_goto (tgt := 99) hx hb dX9_unit_55 (by decide) ?_
        exact mu_iret hx hb hr hlocks hP hS dX9_unit_99 (by rw [m_X9_unit, if_neg c_1, if_neg c_2, if_neg c_3]) (by rw [m_X9_unit, if_neg c_1, if_neg c_2, if_neg c_3])
  · skip
    refine lv_iconst (v := (1 : Int32)) hx hb dX9_unit_12 (by decide) ?_
    refine lv_goto (tgt := 33) hx hb dX9_unit_13 (by decide) ?_
    refine muV (A0 := A) (wc := (wMo cy a0 a1 a2 a3 a4 a5 a6 mo)) (As := [.int (1 : Int32)]) (rest := []) (c_X9_refused l D cy a0 a1 a2 a3 a4 a5 a6 mo (1 : Int32)) hCF gX9_unit_X9_refused rfl hd_X9_refused ⟨rfl, rfl, Nat.le_of_ble_eq_true rfl, Nat.le_of_ble_eq_true rfl⟩ hG hP hD hS hA [0, 1, 2, 3, 4, 5, 6] rfl c_Mo_Mo h_Mo (ci := 7) rfl rfl g_Mo_0 rfl hl.1 rfl (Nat.le_of_ble_eq_true rfl) dX9_unit_33 ⟨Nat.le_refl _, Nat.le_refl _⟩ (fun H locs hP hD hS => ?_)
    have hP : va_P D vwCl (wMo cy a0 a1 a2 a3 a4 a5 a6 (mR' mo (1 : Int32))) H := va_P_eq hP r_Mo_Mo
    have hD : va_D A (wMo cy a0 a1 a2 a3 a4 a5 a6 (mR' mo (1 : Int32))) := va_D_eq hD r_Mo_Mo
    refine lv_if_eq (tgt := 41) hx hb dX9_unit_36 (by decide) (fun c => absurd c (rf_lit1 _)) (fun _ => ?_)
    refine lv_iconst (v := (0 : Int32)) hx hb dX9_unit_39 (by decide) ?_
    exact mu_iret hx hb hr hlocks hP hS dX9_unit_40 (by rw [m_X9_unit, if_pos c_1]) (by rw [m_X9_unit, if_pos c_1])
def m_X9_holder_L48 : Nat → MoT → Int32 → Int32 → Int32 → Int32 → Int32 → Int32 → Int32 × MoT
  | 0, mo, _, _, _, _, _, _ => (0, mo)
  | nF + 1, mo, x1, x2, ow, pl, bo, u => if ((mN mo) (1 : Int32).toNatClampNeg) ≤ u then if x2 = (0 : Int32) then ((mN mo) ((88 : Int32) + x1).toNatClampNeg, mR' mo (0 : Int32)) else if x2 = (1 : Int32) then (ow, mR' mo (0 : Int32)) else if x2 = (2 : Int32) then (pl, mR' mo (0 : Int32)) else if x2 = (3 : Int32) then (bo, mR' mo (0 : Int32)) else if x2 = (4 : Int32) then ((mN mo) (m_X9_coresAt x1).toNatClampNeg, mR' mo (0 : Int32)) else if x2 = (5 : Int32) then (m_X9_partsOwed (mN mo) x1 (-1 : Int32), mR' mo (0 : Int32)) else (m_X9_partsOwed (mN mo) (-1 : Int32) x1, mR' mo (0 : Int32)) else if (m_X9_of (mN mo) u (1 : Int32)) = x1 then if (m_X9_of (mN mo) u (2 : Int32)) = x1 then m_X9_holder_L48 nF mo x1 x2 (ow + (1 : Int32)) (pl + (1 : Int32)) (bo + (0 : Int32)) (u + (1 : Int32)) else m_X9_holder_L48 nF mo x1 x2 (ow + (1 : Int32)) (pl + (0 : Int32)) (bo + (0 : Int32)) (u + (1 : Int32)) else if (m_X9_of (mN mo) u (2 : Int32)) = x1 then m_X9_holder_L48 nF mo x1 x2 (ow + (0 : Int32)) (pl + (1 : Int32)) (bo + (1 : Int32)) (u + (1 : Int32)) else m_X9_holder_L48 nF mo x1 x2 (ow + (0 : Int32)) (pl + (0 : Int32)) (bo + (0 : Int32)) (u + (1 : Int32))
def m_X9_holder (mo : MoT) (x1 : Int32) (x2 : Int32) : Int32 × MoT := if (m_X9_isHolder x1) = (0 : Int32) then ((0 : Int32), mR' mo (1 : Int32)) else if (m_X9_in x2.toInt64 (0 : Int64) (6 : Int64)) = (0 : Int32) then ((0 : Int32), mR' mo (2 : Int32)) else m_X9_holder_L48 100 mo x1 x2 (0 : Int32) (0 : Int32) (0 : Int32) (0 : Int32)
theorem hd_X9_holder : yX9_holder.cls = RX9 ∧ yX9_holder.cls ≠ "java/lang/invoke/MethodHandle" ∧ yX9_holder.cls ≠ "java/lang/invoke/VarHandle" ∧ (parseMethodDescriptor yX9_holder.desc).map (fun d => d.parameters.length) = some 2 := by decide +kernel
set_option maxHeartbeats 8000000 in
set_option maxRecDepth 20000 in
theorem c_X9_holder (l : Launch) (D : va_G) (cy : Nat → ClassId) (a0 a1 a2 a3 a4 a5 a6 : Nat) (mo : MoT) (x1 : Int32) (x2 : Int32) (hM : rOK (mN mo)) : MU l D cy yX9_holder wsX9_holder ({ frames := 2, cells := 0, slots := 0, locals := 49 } : Room) (wMo cy a0 a1 a2 a3 a4 a5 a6 mo) (wMo cy a0 a1 a2 a3 a4 a5 a6 (m_X9_holder mo x1 x2).2) [.ref a0, .int x1, .int x2] (m_X9_holder mo x1 x2).1 := by
  refine MU.body (by decide) rfl (Nat.le_of_ble_eq_true rfl) ?_
  intro p e s m below meth c hx hb hml hr hts hown hlocks hP hG ls hl A hD hA hS
  have hl : lv_has ls 7 [(0, .ref a0), (1, .int x1), (2, .int x2)] := hl
  have hCF : CallFix p m c cX9_holder 7 s ([.ref a0, .int x1, .int x2] : List Value).toArray wsX9_holder RX9 := ⟨hx, hb, hml, hown, hts⟩
  have in_X9 : ∀ w ∈ u_ws RX9 TX9 11, w ∈ wsX9_holder := fun _ h => List.mem_cons_of_mem _ (List.mem_append_right _ h)
  have k_0 := hts (Cond.fieldLink RX9 13 "SparePoolModel" "now" "[I") (List.mem_of_getElem? (i := 2) rfl)
  have k_1 := hts (Cond.constantLong RX9 215 (6)) (List.mem_of_getElem? (i := 1) rfl)
  have hP : va_P D vwCl (wMo cy a0 a1 a2 a3 a4 a5 a6 mo) s.heap := hP
  have L_48 : ∀ (nF : Nat) (ow : Int32) (pl : Int32) (bo : Int32) (u : Int32), 0 ≤ u.toInt → ¬ m_X9_isHolder x1 = 0 → (((mN mo) (1 : Int32).toNatClampNeg).toInt - u.toInt).toNat < nF → m_X9_holder_L48 nF mo x1 x2 ow pl bo u = (m_X9_holder mo x1 x2) → ∀ (H : Heap) (locs : List Loc), va_P D vwCl (wMo cy a0 a1 a2 a3 a4 a5 a6 (mR' mo (0 : Int32))) H → va_D A (wMo cy a0 a1 a2 a3 a4 a5 a6 (mR' mo (0 : Int32))) → va_S A s.heap H locs → ∀ ls : Array Slot, lv_has ls 7 [(0, .ref a0), (1, .int x1), (2, .int x2), (3, .int ow), (4, .int pl), (5, .int bo), (6, .int u)] → W p l e ({ frames := 2, cells := 0, slots := 0, locals := 49 } : Room) s m ([.ref a0, .int x1, .int x2] : List Value).toArray below meth c H locs 0 0 (MQ below (va_Qi (fun v_ (_ : Unit) => v_ = (m_X9_holder mo x1 x2).1) (fun _ t => va_P D vwCl (wMo cy a0 a1 a2 a3 a4 a5 a6 (m_X9_holder mo x1 x2).2) t.heap) A) ([.ref a0, .int x1, .int x2] : List Value).toArray s 0 0 A) (F0 m 48 ls []) := by
    intro nF
    induction nF with
    | zero => intro ow pl bo u h0 hh hm; exact absurd hm (Nat.not_lt_zero _)
    | succ nF ih =>
      intro ow pl bo u h0 hh hm hQ H locs hP hD hS ls hl
      refine lv_iload hx hb dX9_holder_48 (lv_at hl 6 rfl) ?_
      refine lv_aload_n hx hb dX9_holder_50 rfl (lv_at hl 0 rfl) ?_
      refine va_get (D := D) (ci := 7) (v := .ref a2) (C := RX9) (T := TX9) (N := 11) hx hb hts in_X9 hown hG.1 hP 0 g_Mo_0 rfl 3 (by decide) k_0 (fun _ h9 => h9) rfl dX9_holder_51 ?_
      refine lv_iconst (v := (1 : Int32)) hx hb dX9_holder_54 (by decide) ?_
      refine va_iald hx hb hG.1 hP 2 0 (n := 383) (f := (mN mo)) g_Mo_2 rfl (bd_of (by decide) (by decide)) dX9_holder_55 ?_
      refine lv_icmp_ge (tgt := 149) hx hb dX9_holder_56 (by decide) (fun c_1 => ?_) (fun c_1 => ?_)
      · skip
        refine lv_iload_n hx hb dX9_holder_149 rfl (lv_at hl 2 rfl) ?_
        refine lv_if_ne (tgt := 165) hx hb dX9_holder_150 (by decide) (fun c_2 => ?_) (fun c_2 => ?_)
        · skip
          refine lv_iload_n hx hb dX9_holder_165 rfl (lv_at hl 2 rfl) ?_
          refine lv_iconst (v := (1 : Int32)) hx hb dX9_holder_166 (by decide) ?_
          refine lv_icmp_ne (tgt := 174) hx hb dX9_holder_167 (by decide) (fun c_3 => ?_) (fun c_3 => ?_)
          · skip
            refine lv_iload_n hx hb dX9_holder_174 rfl (lv_at hl 2 rfl) ?_
            refine lv_iconst (v := (2 : Int32)) hx hb dX9_holder_175 (by decide) ?_
            refine lv_icmp_ne (tgt := 184) hx hb dX9_holder_176 (by decide) (fun c_4 => ?_) (fun c_4 => ?_)
            · skip
              refine lv_iload_n hx hb dX9_holder_184 rfl (lv_at hl 2 rfl) ?_
              refine lv_iconst (v := (3 : Int32)) hx hb dX9_holder_185 (by decide) ?_
              refine lv_icmp_ne (tgt := 194) hx hb dX9_holder_186 (by decide) (fun c_5 => ?_) (fun c_5 => ?_)
              · skip
                refine lv_iload_n hx hb dX9_holder_194 rfl (lv_at hl 2 rfl) ?_
                refine lv_iconst (v := (4 : Int32)) hx hb dX9_holder_195 (by decide) ?_
                refine lv_icmp_ne (tgt := 211) hx hb dX9_holder_196 (by decide) (fun c_6 => ?_) (fun c_6 => ?_)
                · skip
                  refine lv_iload_n hx hb dX9_holder_211 rfl (lv_at hl 2 rfl) ?_
                  refine lv_iconst (v := (5 : Int32)) hx hb dX9_holder_212 (by decide) ?_
                  refine lv_icmp_ne (tgt := 228) hx hb dX9_holder_213 (by decide) (fun c_7 => ?_) (fun c_7 => ?_)
                  · skip
                    refine lv_aload_n hx hb dX9_holder_228 rfl (lv_at hl 0 rfl) ?_
                    refine va_get (D := D) (ci := 7) (v := .ref a2) (C := RX9) (T := TX9) (N := 11) hx hb hts in_X9 hown hG.1 hP 0 g_Mo_0 rfl 3 (by decide) k_0 (fun _ h9 => h9) rfl dX9_holder_229 ?_
                    refine lv_iconst (v := (-1 : Int32)) hx hb dX9_holder_232 (by decide) ?_
                    refine lv_iload_n hx hb dX9_holder_233 rfl (lv_at hl 1 rfl) ?_
                    refine roS (wc := (wAr cy a2 (mN mo))) (As := [.ref a2, .int (-1 : Int32), .int x1]) (rest := []) (c_X9_partsOwed l D cy a2 (mN mo) (-1 : Int32) x1) hCF gX9_holder_X9_partsOwed rfl hd_X9_partsOwed ⟨rfl, rfl, Nat.le_of_ble_eq_true rfl, Nat.le_of_ble_eq_true rfl⟩ hG (hP.sub (ws' := (wAr cy a2 (mN mo))) [2] u_Mo_Ar2) rfl hl.1 rfl (Nat.le_of_ble_eq_true rfl) dX9_holder_234 ⟨Nat.le_refl _, Nat.le_refl _⟩ ?_
                    exact mu_iret hx hb hr hlocks hP hS dX9_holder_237 (by rw [← hQ, m_X9_holder_L48, if_pos c_1, if_neg c_2, if_neg c_3, if_neg c_4, if_neg c_5, if_neg c_6, if_neg c_7]) (by rw [← hQ, m_X9_holder_L48, if_pos c_1, if_neg c_2, if_neg c_3, if_neg c_4, if_neg c_5, if_neg c_6, if_neg c_7])
                  · skip
                    refine lv_aload_n hx hb dX9_holder_216 rfl (lv_at hl 0 rfl) ?_
                    refine va_get (D := D) (ci := 7) (v := .ref a2) (C := RX9) (T := TX9) (N := 11) hx hb hts in_X9 hown hG.1 hP 0 g_Mo_0 rfl 3 (by decide) k_0 (fun _ h9 => h9) rfl dX9_holder_217 ?_
                    refine lv_iload_n hx hb dX9_holder_220 rfl (lv_at hl 1 rfl) ?_
                    refine lv_iconst (v := (-1 : Int32)) hx hb dX9_holder_221 (by decide) ?_
                    refine roS (wc := (wAr cy a2 (mN mo))) (As := [.ref a2, .int x1, .int (-1 : Int32)]) (rest := []) (c_X9_partsOwed l D cy a2 (mN mo) x1 (-1 : Int32)) hCF gX9_holder_X9_partsOwed rfl hd_X9_partsOwed ⟨rfl, rfl, Nat.le_of_ble_eq_true rfl, Nat.le_of_ble_eq_true rfl⟩ hG (hP.sub (ws' := (wAr cy a2 (mN mo))) [2] u_Mo_Ar2) rfl hl.1 rfl (Nat.le_of_ble_eq_true rfl) dX9_holder_222 ⟨Nat.le_refl _, Nat.le_refl _⟩ ?_
                    refine lv_goto (tgt := 237) hx hb dX9_holder_225 (by decide) ?_
                    exact mu_iret hx hb hr hlocks hP hS dX9_holder_237 (by rw [← hQ, m_X9_holder_L48, if_pos c_1, if_neg c_2, if_neg c_3, if_neg c_4, if_neg c_5, if_neg c_6, if_pos c_7]) (by rw [← hQ, m_X9_holder_L48, if_pos c_1, if_neg c_2, if_neg c_3, if_neg c_4, if_neg c_5, if_neg c_6, if_pos c_7])
                · skip
                  refine lv_aload_n hx hb dX9_holder_199 rfl (lv_at hl 0 rfl) ?_
                  refine va_get (D := D) (ci := 7) (v := .ref a2) (C := RX9) (T := TX9) (N := 11) hx hb hts in_X9 hown hG.1 hP 0 g_Mo_0 rfl 3 (by decide) k_0 (fun _ h9 => h9) rfl dX9_holder_200 ?_
                  refine lv_iload_n hx hb dX9_holder_203 rfl (lv_at hl 1 rfl) ?_
                  refine roS (wc := ([] : va_W)) (As := [.int x1]) (rest := [.ref a2]) (c_X9_coresAt l D cy x1) hCF gX9_holder_X9_coresAt rfl hd_X9_coresAt ⟨rfl, rfl, Nat.le_of_ble_eq_true rfl, Nat.le_of_ble_eq_true rfl⟩ hG va_P_nil rfl hl.1 rfl (Nat.le_of_ble_eq_true rfl) dX9_holder_204 ⟨Nat.le_refl _, Nat.le_refl _⟩ ?_
                  refine va_iald hx hb hG.1 hP 2 0 (n := 383) (f := (mN mo)) g_Mo_2 rfl (iv_in (iv_coresAt (iv_isHolder hh)) (by decide) (by decide)) dX9_holder_207 ?_
                  refine lv_goto (tgt := 237) hx hb dX9_holder_208 (by decide) ?_
                  exact mu_iret hx hb hr hlocks hP hS dX9_holder_237 (by rw [← hQ, m_X9_holder_L48, if_pos c_1, if_neg c_2, if_neg c_3, if_neg c_4, if_neg c_5, if_pos c_6]) (by rw [← hQ, m_X9_holder_L48, if_pos c_1, if_neg c_2, if_neg c_3, if_neg c_4, if_neg c_5, if_pos c_6])
              · skip
                refine lv_iload hx hb dX9_holder_189 (lv_at hl 5 rfl) ?_
                refine lv_goto (tgt := 237) hx hb dX9_holder_191 (by decide) ?_
                exact mu_iret hx hb hr hlocks hP hS dX9_holder_237 (by rw [← hQ, m_X9_holder_L48, if_pos c_1, if_neg c_2, if_neg c_3, if_neg c_4, if_pos c_5]) (by rw [← hQ, m_X9_holder_L48, if_pos c_1, if_neg c_2, if_neg c_3, if_neg c_4, if_pos c_5])
            · skip
              refine lv_iload hx hb dX9_holder_179 (lv_at hl 4 rfl) ?_
              refine lv_goto (tgt := 237) hx hb dX9_holder_181 (by decide) ?_
              exact mu_iret hx hb hr hlocks hP hS dX9_holder_237 (by rw [← hQ, m_X9_holder_L48, if_pos c_1, if_neg c_2, if_neg c_3, if_pos c_4]) (by rw [← hQ, m_X9_holder_L48, if_pos c_1, if_neg c_2, if_neg c_3, if_pos c_4])
          · skip
            refine lv_iload_n hx hb dX9_holder_170 rfl (lv_at hl 3 rfl) ?_
            refine lv_goto (tgt := 237) hx hb dX9_holder_171 (by decide) ?_
            exact mu_iret hx hb hr hlocks hP hS dX9_holder_237 (by rw [← hQ, m_X9_holder_L48, if_pos c_1, if_neg c_2, if_pos c_3]) (by rw [← hQ, m_X9_holder_L48, if_pos c_1, if_neg c_2, if_pos c_3])
        · skip
          refine lv_aload_n hx hb dX9_holder_153 rfl (lv_at hl 0 rfl) ?_
          refine va_get (D := D) (ci := 7) (v := .ref a2) (C := RX9) (T := TX9) (N := 11) hx hb hts in_X9 hown hG.1 hP 0 g_Mo_0 rfl 3 (by decide) k_0 (fun _ h9 => h9) rfl dX9_holder_154 ?_
          refine lv_bipush (v := (88 : Int32)) hx hb dX9_holder_157 (by decide) ?_
          refine lv_iload_n hx hb dX9_holder_159 rfl (lv_at hl 1 rfl) ?_
          refine lv_iadd hx hb dX9_holder_160 ?_
          refine va_iald hx hb hG.1 hP 2 0 (n := 383) (f := (mN mo)) g_Mo_2 rfl (iv_in (iv_add (l := 88) (h := 92) (iv_lit (v := 88) (by decide)) (iv_isHolder hh) (by decide)) (by decide) (by decide)) dX9_holder_161 ?_
          refine lv_goto (tgt := 237) hx hb dX9_holder_162 (by decide) ?_
          exact mu_iret hx hb hr hlocks hP hS dX9_holder_237 (by rw [← hQ, m_X9_holder_L48, if_pos c_1, if_pos c_2]) (by rw [← hQ, m_X9_holder_L48, if_pos c_1, if_pos c_2])
      · skip
        refine lv_iload_n hx hb dX9_holder_59 rfl (lv_at hl 3 rfl) ?_
        refine lv_aload_n hx hb dX9_holder_60 rfl (lv_at hl 0 rfl) ?_
        refine va_get (D := D) (ci := 7) (v := .ref a2) (C := RX9) (T := TX9) (N := 11) hx hb hts in_X9 hown hG.1 hP 0 g_Mo_0 rfl 3 (by decide) k_0 (fun _ h9 => h9) rfl dX9_holder_61 ?_
        refine lv_iload hx hb dX9_holder_64 (lv_at hl 6 rfl) ?_
        refine lv_iconst (v := (1 : Int32)) hx hb dX9_holder_66 (by decide) ?_
        refine roS (wc := (wAr cy a2 (mN mo))) (As := [.ref a2, .int u, .int (1 : Int32)]) (rest := [.int ow]) (c_X9_of l D cy a2 (mN mo) u (1 : Int32) (iv_loop (M := 16) (h := 15) h0 c_1 ((rk_many hM).2) (by decide)) (iv_wide (l2 := 0) (h2 := 4) (iv_lit (v := 1) (by decide)) (by decide))) hCF gX9_holder_X9_of rfl hd_X9_of ⟨rfl, rfl, Nat.le_of_ble_eq_true rfl, Nat.le_of_ble_eq_true rfl⟩ hG (hP.sub (ws' := (wAr cy a2 (mN mo))) [2] u_Mo_Ar2) rfl hl.1 rfl (Nat.le_of_ble_eq_true rfl) dX9_holder_67 ⟨Nat.le_refl _, Nat.le_refl _⟩ ?_
        refine lv_iload_n hx hb dX9_holder_70 rfl (lv_at hl 1 rfl) ?_
        refine lv_icmp_ne (tgt := 78) hx hb dX9_holder_71 (by decide) (fun c_8 => ?_) (fun c_8 => ?_)
        · skip
          refine lv_iconst (v := (0 : Int32)) hx hb dX9_holder_78 (by decide) ?_
          refine lv_iadd hx hb dX9_holder_79 ?_
          refine lv_istore_n (lv' := [(3, .int (ow + (0 : Int32))), (0, .ref a0), (1, .int x1), (2, .int x2), (4, .int pl), (5, .int bo), (6, .int u)]) hx hb dX9_holder_80 rfl hl (by decide) rfl (fun ls hl => ?_)
          refine lv_iload hx hb dX9_holder_81 (lv_at hl 4 rfl) ?_
          refine lv_aload_n hx hb dX9_holder_83 rfl (lv_at hl 1 rfl) ?_
          refine va_get (D := D) (ci := 7) (v := .ref a2) (C := RX9) (T := TX9) (N := 11) hx hb hts in_X9 hown hG.1 hP 0 g_Mo_0 rfl 3 (by decide) k_0 (fun _ h9 => h9) rfl dX9_holder_84 ?_
          refine lv_iload hx hb dX9_holder_87 (lv_at hl 6 rfl) ?_
          refine lv_iconst (v := (2 : Int32)) hx hb dX9_holder_89 (by decide) ?_
          refine roS (wc := (wAr cy a2 (mN mo))) (As := [.ref a2, .int u, .int (2 : Int32)]) (rest := [.int pl]) (c_X9_of l D cy a2 (mN mo) u (2 : Int32) (iv_loop (M := 16) (h := 15) h0 c_1 ((rk_many hM).2) (by decide)) (iv_wide (l2 := 0) (h2 := 4) (iv_lit (v := 2) (by decide)) (by decide))) hCF gX9_holder_X9_of rfl hd_X9_of ⟨rfl, rfl, Nat.le_of_ble_eq_true rfl, Nat.le_of_ble_eq_true rfl⟩ hG (hP.sub (ws' := (wAr cy a2 (mN mo))) [2] u_Mo_Ar2) rfl hl.1 rfl (Nat.le_of_ble_eq_true rfl) dX9_holder_90 ⟨Nat.le_refl _, Nat.le_refl _⟩ ?_
          refine lv_iload_n hx hb dX9_holder_93 rfl (lv_at hl 2 rfl) ?_
          refine lv_icmp_ne (tgt := 101) hx hb dX9_holder_94 (by decide) (fun c_9 => ?_) (fun c_9 => ?_)
          · skip
            refine lv_iconst (v := (0 : Int32)) hx hb dX9_holder_101 (by decide) ?_
            refine lv_iadd hx hb dX9_holder_102 ?_
            refine lv_istore (lv' := [(4, .int (pl + (0 : Int32))), (3, .int (ow + (0 : Int32))), (0, .ref a0), (1, .int x1), (2, .int x2), (5, .int bo), (6, .int u)]) hx hb dX9_holder_103 hl (by decide) rfl (fun ls hl => ?_)
            refine lv_iload hx hb dX9_holder_105 (lv_at hl 5 rfl) ?_
            refine lv_aload_n hx hb dX9_holder_107 rfl (lv_at hl 2 rfl) ?_
            refine va_get (D := D) (ci := 7) (v := .ref a2) (C := RX9) (T := TX9) (N := 11) hx hb hts in_X9 hown hG.1 hP 0 g_Mo_0 rfl 3 (by decide) k_0 (fun _ h9 => h9) rfl dX9_holder_108 ?_
            refine lv_iload hx hb dX9_holder_111 (lv_at hl 6 rfl) ?_
            refine lv_iconst (v := (2 : Int32)) hx hb dX9_holder_113 (by decide) ?_
            refine roS (wc := (wAr cy a2 (mN mo))) (As := [.ref a2, .int u, .int (2 : Int32)]) (rest := [.int bo]) (c_X9_of l D cy a2 (mN mo) u (2 : Int32) (iv_loop (M := 16) (h := 15) h0 c_1 ((rk_many hM).2) (by decide)) (iv_wide (l2 := 0) (h2 := 4) (iv_lit (v := 2) (by decide)) (by decide))) hCF gX9_holder_X9_of rfl hd_X9_of ⟨rfl, rfl, Nat.le_of_ble_eq_true rfl, Nat.le_of_ble_eq_true rfl⟩ hG (hP.sub (ws' := (wAr cy a2 (mN mo))) [2] u_Mo_Ar2) rfl hl.1 rfl (Nat.le_of_ble_eq_true rfl) dX9_holder_114 ⟨Nat.le_refl _, Nat.le_refl _⟩ ?_
            refine lv_iload_n hx hb dX9_holder_117 rfl (lv_at hl 3 rfl) ?_
            refine lv_icmp_ne (tgt := 139) hx hb dX9_holder_118 (by decide) (fun _ => ?_) (fun c => absurd c c_9)
            refine lv_iconst (v := (0 : Int32)) hx hb dX9_holder_139 (by decide) ?_
            refine lv_iadd hx hb dX9_holder_140 ?_
            refine lv_istore (lv' := [(5, .int (bo + (0 : Int32))), (4, .int (pl + (0 : Int32))), (3, .int (ow + (0 : Int32))), (0, .ref a0), (1, .int x1), (2, .int x2), (6, .int u)]) hx hb dX9_holder_141 hl (by decide) rfl (fun ls hl => ?_)
            refine lv_iinc (v := (u + (1 : Int32))) (lv' := [(6, .int (u + (1 : Int32))), (5, .int (bo + (0 : Int32))), (4, .int (pl + (0 : Int32))), (3, .int (ow + (0 : Int32))), (0, .ref a0), (1, .int x1), (2, .int x2)]) hx hb dX9_holder_143 hl (k := 6) rfl rfl (by decide) rfl (fun ls hl => ?_)
            refine lv_goto (tgt := 48) hx hb dX9_holder_146 (by decide) ?_
            exact ih  (ow + (0 : Int32)) (pl + (0 : Int32)) (bo + (0 : Int32)) (u + (1 : Int32)) (lp_up h0 c_1) hh (lp_dec h0 c_1 hm) (by rw [← hQ, m_X9_holder_L48, if_neg c_1, if_neg c_8, if_neg c_9]) H locs hP hD hS ls (lv_sub hl [4, 5, 6, 3, 2, 1, 0] rfl)
          · skip
            refine lv_iconst (v := (1 : Int32)) hx hb dX9_holder_97 (by decide) ?_
            refine lv_goto (tgt := 102) hx hb dX9_holder_98 (by decide) ?_
            refine lv_iadd hx hb dX9_holder_102 ?_
            refine lv_istore (lv' := [(4, .int (pl + (1 : Int32))), (3, .int (ow + (0 : Int32))), (0, .ref a0), (1, .int x1), (2, .int x2), (5, .int bo), (6, .int u)]) hx hb dX9_holder_103 hl (by decide) rfl (fun ls hl => ?_)
            refine lv_iload hx hb dX9_holder_105 (lv_at hl 5 rfl) ?_
            refine lv_aload_n hx hb dX9_holder_107 rfl (lv_at hl 2 rfl) ?_
            refine va_get (D := D) (ci := 7) (v := .ref a2) (C := RX9) (T := TX9) (N := 11) hx hb hts in_X9 hown hG.1 hP 0 g_Mo_0 rfl 3 (by decide) k_0 (fun _ h9 => h9) rfl dX9_holder_108 ?_
            refine lv_iload hx hb dX9_holder_111 (lv_at hl 6 rfl) ?_
            refine lv_iconst (v := (2 : Int32)) hx hb dX9_holder_113 (by decide) ?_
            refine roS (wc := (wAr cy a2 (mN mo))) (As := [.ref a2, .int u, .int (2 : Int32)]) (rest := [.int bo]) (c_X9_of l D cy a2 (mN mo) u (2 : Int32) (iv_loop (M := 16) (h := 15) h0 c_1 ((rk_many hM).2) (by decide)) (iv_wide (l2 := 0) (h2 := 4) (iv_lit (v := 2) (by decide)) (by decide))) hCF gX9_holder_X9_of rfl hd_X9_of ⟨rfl, rfl, Nat.le_of_ble_eq_true rfl, Nat.le_of_ble_eq_true rfl⟩ hG (hP.sub (ws' := (wAr cy a2 (mN mo))) [2] u_Mo_Ar2) rfl hl.1 rfl (Nat.le_of_ble_eq_true rfl) dX9_holder_114 ⟨Nat.le_refl _, Nat.le_refl _⟩ ?_
            refine lv_iload_n hx hb dX9_holder_117 rfl (lv_at hl 3 rfl) ?_
            refine lv_icmp_ne (tgt := 139) hx hb dX9_holder_118 (by decide) (fun c => absurd c_9 c) (fun _ => ?_)
            refine lv_aload_n hx hb dX9_holder_121 rfl (lv_at hl 2 rfl) ?_
            refine va_get (D := D) (ci := 7) (v := .ref a2) (C := RX9) (T := TX9) (N := 11) hx hb hts in_X9 hown hG.1 hP 0 g_Mo_0 rfl 3 (by decide) k_0 (fun _ h9 => h9) rfl dX9_holder_122 ?_
            refine lv_iload hx hb dX9_holder_125 (lv_at hl 6 rfl) ?_
            refine lv_iconst (v := (1 : Int32)) hx hb dX9_holder_127 (by decide) ?_
            refine roS (wc := (wAr cy a2 (mN mo))) (As := [.ref a2, .int u, .int (1 : Int32)]) (rest := [.int bo]) (c_X9_of l D cy a2 (mN mo) u (1 : Int32) (iv_loop (M := 16) (h := 15) h0 c_1 ((rk_many hM).2) (by decide)) (iv_wide (l2 := 0) (h2 := 4) (iv_lit (v := 1) (by decide)) (by decide))) hCF gX9_holder_X9_of rfl hd_X9_of ⟨rfl, rfl, Nat.le_of_ble_eq_true rfl, Nat.le_of_ble_eq_true rfl⟩ hG (hP.sub (ws' := (wAr cy a2 (mN mo))) [2] u_Mo_Ar2) rfl hl.1 rfl (Nat.le_of_ble_eq_true rfl) dX9_holder_128 ⟨Nat.le_refl _, Nat.le_refl _⟩ ?_
            refine lv_iload_n hx hb dX9_holder_131 rfl (lv_at hl 3 rfl) ?_
            refine lv_icmp_eq (tgt := 139) hx hb dX9_holder_132 (by decide) (fun c => absurd c c_8) (fun _ => ?_)
            refine lv_iconst (v := (1 : Int32)) hx hb dX9_holder_135 (by decide) ?_
            refine lv_goto (tgt := 140) hx hb dX9_holder_136 (by decide) ?_
            refine lv_iadd hx hb dX9_holder_140 ?_
            refine lv_istore (lv' := [(5, .int (bo + (1 : Int32))), (4, .int (pl + (1 : Int32))), (3, .int (ow + (0 : Int32))), (0, .ref a0), (1, .int x1), (2, .int x2), (6, .int u)]) hx hb dX9_holder_141 hl (by decide) rfl (fun ls hl => ?_)
            refine lv_iinc (v := (u + (1 : Int32))) (lv' := [(6, .int (u + (1 : Int32))), (5, .int (bo + (1 : Int32))), (4, .int (pl + (1 : Int32))), (3, .int (ow + (0 : Int32))), (0, .ref a0), (1, .int x1), (2, .int x2)]) hx hb dX9_holder_143 hl (k := 6) rfl rfl (by decide) rfl (fun ls hl => ?_)
            refine lv_goto (tgt := 48) hx hb dX9_holder_146 (by decide) ?_
            exact ih  (ow + (0 : Int32)) (pl + (1 : Int32)) (bo + (1 : Int32)) (u + (1 : Int32)) (lp_up h0 c_1) hh (lp_dec h0 c_1 hm) (by rw [← hQ, m_X9_holder_L48, if_neg c_1, if_neg c_8, if_pos c_9]) H locs hP hD hS ls (lv_sub hl [4, 5, 6, 3, 2, 1, 0] rfl)
        · skip
          refine lv_iconst (v := (1 : Int32)) hx hb dX9_holder_74 (by decide) ?_
          refine lv_goto (tgt := 79) hx hb dX9_holder_75 (by decide) ?_
          refine lv_iadd hx hb dX9_holder_79 ?_
          refine lv_istore_n (lv' := [(3, .int (ow + (1 : Int32))), (0, .ref a0), (1, .int x1), (2, .int x2), (4, .int pl), (5, .int bo), (6, .int u)]) hx hb dX9_holder_80 rfl hl (by decide) rfl (fun ls hl => ?_)
          refine lv_iload hx hb dX9_holder_81 (lv_at hl 4 rfl) ?_
          refine lv_aload_n hx hb dX9_holder_83 rfl (lv_at hl 1 rfl) ?_
          refine va_get (D := D) (ci := 7) (v := .ref a2) (C := RX9) (T := TX9) (N := 11) hx hb hts in_X9 hown hG.1 hP 0 g_Mo_0 rfl 3 (by decide) k_0 (fun _ h9 => h9) rfl dX9_holder_84 ?_
          refine lv_iload hx hb dX9_holder_87 (lv_at hl 6 rfl) ?_
          refine lv_iconst (v := (2 : Int32)) hx hb dX9_holder_89 (by decide) ?_
          refine roS (wc := (wAr cy a2 (mN mo))) (As := [.ref a2, .int u, .int (2 : Int32)]) (rest := [.int pl]) (c_X9_of l D cy a2 (mN mo) u (2 : Int32) (iv_loop (M := 16) (h := 15) h0 c_1 ((rk_many hM).2) (by decide)) (iv_wide (l2 := 0) (h2 := 4) (iv_lit (v := 2) (by decide)) (by decide))) hCF gX9_holder_X9_of rfl hd_X9_of ⟨rfl, rfl, Nat.le_of_ble_eq_true rfl, Nat.le_of_ble_eq_true rfl⟩ hG (hP.sub (ws' := (wAr cy a2 (mN mo))) [2] u_Mo_Ar2) rfl hl.1 rfl (Nat.le_of_ble_eq_true rfl) dX9_holder_90 ⟨Nat.le_refl _, Nat.le_refl _⟩ ?_
          refine lv_iload_n hx hb dX9_holder_93 rfl (lv_at hl 2 rfl) ?_
          refine lv_icmp_ne (tgt := 101) hx hb dX9_holder_94 (by decide) (fun c_10 => ?_) (fun c_10 => ?_)
          · skip
            refine lv_iconst (v := (0 : Int32)) hx hb dX9_holder_101 (by decide) ?_
            refine lv_iadd hx hb dX9_holder_102 ?_
            refine lv_istore (lv' := [(4, .int (pl + (0 : Int32))), (3, .int (ow + (1 : Int32))), (0, .ref a0), (1, .int x1), (2, .int x2), (5, .int bo), (6, .int u)]) hx hb dX9_holder_103 hl (by decide) rfl (fun ls hl => ?_)
            refine lv_iload hx hb dX9_holder_105 (lv_at hl 5 rfl) ?_
            refine lv_aload_n hx hb dX9_holder_107 rfl (lv_at hl 2 rfl) ?_
            refine va_get (D := D) (ci := 7) (v := .ref a2) (C := RX9) (T := TX9) (N := 11) hx hb hts in_X9 hown hG.1 hP 0 g_Mo_0 rfl 3 (by decide) k_0 (fun _ h9 => h9) rfl dX9_holder_108 ?_
            refine lv_iload hx hb dX9_holder_111 (lv_at hl 6 rfl) ?_
            refine lv_iconst (v := (2 : Int32)) hx hb dX9_holder_113 (by decide) ?_
            refine roS (wc := (wAr cy a2 (mN mo))) (As := [.ref a2, .int u, .int (2 : Int32)]) (rest := [.int bo]) (c_X9_of l D cy a2 (mN mo) u (2 : Int32) (iv_loop (M := 16) (h := 15) h0 c_1 ((rk_many hM).2) (by decide)) (iv_wide (l2 := 0) (h2 := 4) (iv_lit (v := 2) (by decide)) (by decide))) hCF gX9_holder_X9_of rfl hd_X9_of ⟨rfl, rfl, Nat.le_of_ble_eq_true rfl, Nat.le_of_ble_eq_true rfl⟩ hG (hP.sub (ws' := (wAr cy a2 (mN mo))) [2] u_Mo_Ar2) rfl hl.1 rfl (Nat.le_of_ble_eq_true rfl) dX9_holder_114 ⟨Nat.le_refl _, Nat.le_refl _⟩ ?_
            refine lv_iload_n hx hb dX9_holder_117 rfl (lv_at hl 3 rfl) ?_
            refine lv_icmp_ne (tgt := 139) hx hb dX9_holder_118 (by decide) (fun _ => ?_) (fun c => absurd c c_10)
            refine lv_iconst (v := (0 : Int32)) hx hb dX9_holder_139 (by decide) ?_
            refine lv_iadd hx hb dX9_holder_140 ?_
            refine lv_istore (lv' := [(5, .int (bo + (0 : Int32))), (4, .int (pl + (0 : Int32))), (3, .int (ow + (1 : Int32))), (0, .ref a0), (1, .int x1), (2, .int x2), (6, .int u)]) hx hb dX9_holder_141 hl (by decide) rfl (fun ls hl => ?_)
            refine lv_iinc (v := (u + (1 : Int32))) (lv' := [(6, .int (u + (1 : Int32))), (5, .int (bo + (0 : Int32))), (4, .int (pl + (0 : Int32))), (3, .int (ow + (1 : Int32))), (0, .ref a0), (1, .int x1), (2, .int x2)]) hx hb dX9_holder_143 hl (k := 6) rfl rfl (by decide) rfl (fun ls hl => ?_)
            refine lv_goto (tgt := 48) hx hb dX9_holder_146 (by decide) ?_
            exact ih  (ow + (1 : Int32)) (pl + (0 : Int32)) (bo + (0 : Int32)) (u + (1 : Int32)) (lp_up h0 c_1) hh (lp_dec h0 c_1 hm) (by rw [← hQ, m_X9_holder_L48, if_neg c_1, if_pos c_8, if_neg c_10]) H locs hP hD hS ls (lv_sub hl [4, 5, 6, 3, 2, 1, 0] rfl)
          · skip
            refine lv_iconst (v := (1 : Int32)) hx hb dX9_holder_97 (by decide) ?_
            refine lv_goto (tgt := 102) hx hb dX9_holder_98 (by decide) ?_
            refine lv_iadd hx hb dX9_holder_102 ?_
            refine lv_istore (lv' := [(4, .int (pl + (1 : Int32))), (3, .int (ow + (1 : Int32))), (0, .ref a0), (1, .int x1), (2, .int x2), (5, .int bo), (6, .int u)]) hx hb dX9_holder_103 hl (by decide) rfl (fun ls hl => ?_)
            refine lv_iload hx hb dX9_holder_105 (lv_at hl 5 rfl) ?_
            refine lv_aload_n hx hb dX9_holder_107 rfl (lv_at hl 2 rfl) ?_
            refine va_get (D := D) (ci := 7) (v := .ref a2) (C := RX9) (T := TX9) (N := 11) hx hb hts in_X9 hown hG.1 hP 0 g_Mo_0 rfl 3 (by decide) k_0 (fun _ h9 => h9) rfl dX9_holder_108 ?_
            refine lv_iload hx hb dX9_holder_111 (lv_at hl 6 rfl) ?_
            refine lv_iconst (v := (2 : Int32)) hx hb dX9_holder_113 (by decide) ?_
            refine roS (wc := (wAr cy a2 (mN mo))) (As := [.ref a2, .int u, .int (2 : Int32)]) (rest := [.int bo]) (c_X9_of l D cy a2 (mN mo) u (2 : Int32) (iv_loop (M := 16) (h := 15) h0 c_1 ((rk_many hM).2) (by decide)) (iv_wide (l2 := 0) (h2 := 4) (iv_lit (v := 2) (by decide)) (by decide))) hCF gX9_holder_X9_of rfl hd_X9_of ⟨rfl, rfl, Nat.le_of_ble_eq_true rfl, Nat.le_of_ble_eq_true rfl⟩ hG (hP.sub (ws' := (wAr cy a2 (mN mo))) [2] u_Mo_Ar2) rfl hl.1 rfl (Nat.le_of_ble_eq_true rfl) dX9_holder_114 ⟨Nat.le_refl _, Nat.le_refl _⟩ ?_
            refine lv_iload_n hx hb dX9_holder_117 rfl (lv_at hl 3 rfl) ?_
            refine lv_icmp_ne (tgt := 139) hx hb dX9_holder_118 (by decide) (fun c => absurd c_10 c) (fun _ => ?_)
            refine lv_aload_n hx hb dX9_holder_121 rfl (lv_at hl 2 rfl) ?_
            refine va_get (D := D) (ci := 7) (v := .ref a2) (C := RX9) (T := TX9) (N := 11) hx hb hts in_X9 hown hG.1 hP 0 g_Mo_0 rfl 3 (by decide) k_0 (fun _ h9 => h9) rfl dX9_holder_122 ?_
            refine lv_iload hx hb dX9_holder_125 (lv_at hl 6 rfl) ?_
            refine lv_iconst (v := (1 : Int32)) hx hb dX9_holder_127 (by decide) ?_
            refine roS (wc := (wAr cy a2 (mN mo))) (As := [.ref a2, .int u, .int (1 : Int32)]) (rest := [.int bo]) (c_X9_of l D cy a2 (mN mo) u (1 : Int32) (iv_loop (M := 16) (h := 15) h0 c_1 ((rk_many hM).2) (by decide)) (iv_wide (l2 := 0) (h2 := 4) (iv_lit (v := 1) (by decide)) (by decide))) hCF gX9_holder_X9_of rfl hd_X9_of ⟨rfl, rfl, Nat.le_of_ble_eq_true rfl, Nat.le_of_ble_eq_true rfl⟩ hG (hP.sub (ws' := (wAr cy a2 (mN mo))) [2] u_Mo_Ar2) rfl hl.1 rfl (Nat.le_of_ble_eq_true rfl) dX9_holder_128 ⟨Nat.le_refl _, Nat.le_refl _⟩ ?_
            refine lv_iload_n hx hb dX9_holder_131 rfl (lv_at hl 3 rfl) ?_
            refine lv_icmp_eq (tgt := 139) hx hb dX9_holder_132 (by decide) (fun _ => ?_) (fun c => absurd c_8 c)
            refine lv_iconst (v := (0 : Int32)) hx hb dX9_holder_139 (by decide) ?_
            refine lv_iadd hx hb dX9_holder_140 ?_
            refine lv_istore (lv' := [(5, .int (bo + (0 : Int32))), (4, .int (pl + (1 : Int32))), (3, .int (ow + (1 : Int32))), (0, .ref a0), (1, .int x1), (2, .int x2), (6, .int u)]) hx hb dX9_holder_141 hl (by decide) rfl (fun ls hl => ?_)
            refine lv_iinc (v := (u + (1 : Int32))) (lv' := [(6, .int (u + (1 : Int32))), (5, .int (bo + (0 : Int32))), (4, .int (pl + (1 : Int32))), (3, .int (ow + (1 : Int32))), (0, .ref a0), (1, .int x1), (2, .int x2)]) hx hb dX9_holder_143 hl (k := 6) rfl rfl (by decide) rfl (fun ls hl => ?_)
            refine lv_goto (tgt := 48) hx hb dX9_holder_146 (by decide) ?_
            exact ih  (ow + (1 : Int32)) (pl + (1 : Int32)) (bo + (0 : Int32)) (u + (1 : Int32)) (lp_up h0 c_1) hh (lp_dec h0 c_1 hm) (by rw [← hQ, m_X9_holder_L48, if_neg c_1, if_pos c_8, if_pos c_10]) H locs hP hD hS ls (lv_sub hl [4, 5, 6, 3, 2, 1, 0] rfl)
  refine lv_aload_n hx hb dX9_holder_0 rfl (lv_at hl 0 rfl) ?_
  refine lv_iload_n hx hb dX9_holder_1 rfl (lv_at hl 1 rfl) ?_
  refine roS (wc := ([] : va_W)) (As := [.int x1]) (rest := [.ref a0]) (c_X9_isHolder l D cy x1) hCF gX9_holder_X9_isHolder rfl hd_X9_isHolder ⟨rfl, rfl, Nat.le_of_ble_eq_true rfl, Nat.le_of_ble_eq_true rfl⟩ hG va_P_nil rfl hl.1 rfl (Nat.le_of_ble_eq_true rfl) dX9_holder_2 ⟨Nat.le_refl _, Nat.le_refl _⟩ ?_
  refine lv_if_ne (tgt := 12) hx hb dX9_holder_5 (by decide) (fun c_11 => ?_) (fun c_11 => ?_)
  · skip
    refine lv_iload_n hx hb dX9_holder_12 rfl (lv_at hl 2 rfl) ?_
    refine lv_i2l hx hb dX9_holder_13 rfl ?_
    refine lv_lconst (v := (0 : Int64)) hx hb dX9_holder_14 (by decide) ?_
    refine lv_ldc2 (v := (6 : Int64)) hx hb hown k_1 dX9_holder_15 ?_
    refine roS (wc := ([] : va_W)) (As := [.long x2.toInt64, .long (0 : Int64), .long (6 : Int64)]) (rest := [.ref a0]) (c_X9_in l D cy x2.toInt64 (0 : Int64) (6 : Int64)) hCF gX9_holder_X9_in rfl hd_X9_in ⟨rfl, rfl, Nat.le_of_ble_eq_true rfl, Nat.le_of_ble_eq_true rfl⟩ hG va_P_nil rfl hl.1 rfl (Nat.le_of_ble_eq_true rfl) dX9_holder_18 ⟨Nat.le_refl _, Nat.le_refl _⟩ ?_
    refine lv_if_eq (tgt := 28) hx hb dX9_holder_21 (by decide) (fun c_12 => ?_) (fun c_12 => ?_)
    · skip
      refine lv_iconst (v := (2 : Int32)) hx hb dX9_holder_28 (by decide) ?_
      refine muV (A0 := A) (wc := (wMo cy a0 a1 a2 a3 a4 a5 a6 mo)) (As := [.int (2 : Int32)]) (rest := []) (c_X9_refused l D cy a0 a1 a2 a3 a4 a5 a6 mo (2 : Int32)) hCF gX9_holder_X9_refused rfl hd_X9_refused ⟨rfl, rfl, Nat.le_of_ble_eq_true rfl, Nat.le_of_ble_eq_true rfl⟩ hG hP hD hS hA [0, 1, 2, 3, 4, 5, 6] rfl c_Mo_Mo h_Mo (ci := 7) rfl rfl g_Mo_0 rfl hl.1 rfl (Nat.le_of_ble_eq_true rfl) dX9_holder_29 ⟨Nat.le_refl _, Nat.le_refl _⟩ (fun H locs hP hD hS => ?_)
      have hP : va_P D vwCl (wMo cy a0 a1 a2 a3 a4 a5 a6 (mR' mo (2 : Int32))) H := va_P_eq hP r_Mo_Mo
      have hD : va_D A (wMo cy a0 a1 a2 a3 a4 a5 a6 (mR' mo (2 : Int32))) := va_D_eq hD r_Mo_Mo
      refine lv_if_eq (tgt := 37) hx hb dX9_holder_32 (by decide) (fun c => absurd c (rf_lit2 _)) (fun _ => ?_)
      refine lv_iconst (v := (0 : Int32)) hx hb dX9_holder_35 (by decide) ?_
      exact mu_iret hx hb hr hlocks hP hS dX9_holder_36 (by rw [m_X9_holder, if_neg c_11, if_pos c_12]) (by rw [m_X9_holder, if_neg c_11, if_pos c_12])
    · skip
      refine lv_iconst (v := (0 : Int32)) hx hb dX9_holder_24 (by decide) ?_
      refine lv_goto (tgt := 29) hx hb dX9_holder_25 (by decide) ?_
      refine muV (A0 := A) (wc := (wMo cy a0 a1 a2 a3 a4 a5 a6 mo)) (As := [.int (0 : Int32)]) (rest := []) (c_X9_refused l D cy a0 a1 a2 a3 a4 a5 a6 mo (0 : Int32)) hCF gX9_holder_X9_refused rfl hd_X9_refused ⟨rfl, rfl, Nat.le_of_ble_eq_true rfl, Nat.le_of_ble_eq_true rfl⟩ hG hP hD hS hA [0, 1, 2, 3, 4, 5, 6] rfl c_Mo_Mo h_Mo (ci := 7) rfl rfl g_Mo_0 rfl hl.1 rfl (Nat.le_of_ble_eq_true rfl) dX9_holder_29 ⟨Nat.le_refl _, Nat.le_refl _⟩ (fun H locs hP hD hS => ?_)
      have hP : va_P D vwCl (wMo cy a0 a1 a2 a3 a4 a5 a6 (mR' mo (0 : Int32))) H := va_P_eq hP r_Mo_Mo
      have hD : va_D A (wMo cy a0 a1 a2 a3 a4 a5 a6 (mR' mo (0 : Int32))) := va_D_eq hD r_Mo_Mo
      refine lv_if_eq (tgt := 37) hx hb dX9_holder_32 (by decide) (fun _ => ?_) (fun c => absurd (rf_lit0 _) c)
      refine lv_iconst (v := (0 : Int32)) hx hb dX9_holder_37 (by decide) ?_
      refine lv_istore_n (lv' := [(3, .int (0 : Int32)), (0, .ref a0), (1, .int x1), (2, .int x2)]) hx hb dX9_holder_38 rfl hl (by decide) rfl (fun ls hl => ?_)
      refine lv_iconst (v := (0 : Int32)) hx hb dX9_holder_39 (by decide) ?_
      refine lv_istore (lv' := [(4, .int (0 : Int32)), (3, .int (0 : Int32)), (0, .ref a0), (1, .int x1), (2, .int x2)]) hx hb dX9_holder_40 hl (by decide) rfl (fun ls hl => ?_)
      refine lv_iconst (v := (0 : Int32)) hx hb dX9_holder_42 (by decide) ?_
      refine lv_istore (lv' := [(5, .int (0 : Int32)), (4, .int (0 : Int32)), (3, .int (0 : Int32)), (0, .ref a0), (1, .int x1), (2, .int x2)]) hx hb dX9_holder_43 hl (by decide) rfl (fun ls hl => ?_)
      refine lv_iconst (v := (0 : Int32)) hx hb dX9_holder_45 (by decide) ?_
      refine lv_istore (lv' := [(6, .int (0 : Int32)), (5, .int (0 : Int32)), (4, .int (0 : Int32)), (3, .int (0 : Int32)), (0, .ref a0), (1, .int x1), (2, .int x2)]) hx hb dX9_holder_46 hl (by decide) rfl (fun ls hl => ?_)
      exact L_48 100 (0 : Int32) (0 : Int32) (0 : Int32) (0 : Int32) (by decide) c_11 (lp_init (M := 16) (rk_many hM).2 (by decide)) (by rw [m_X9_holder, if_neg c_11, if_neg c_12]) H locs hP hD hS ls (lv_sub hl [4, 5, 6, 3, 2, 1, 0] rfl)
  · skip
    refine lv_iconst (v := (1 : Int32)) hx hb dX9_holder_8 (by decide) ?_
    refine lv_goto (tgt := 29) hx hb dX9_holder_9 (by decide) ?_
    refine muV (A0 := A) (wc := (wMo cy a0 a1 a2 a3 a4 a5 a6 mo)) (As := [.int (1 : Int32)]) (rest := []) (c_X9_refused l D cy a0 a1 a2 a3 a4 a5 a6 mo (1 : Int32)) hCF gX9_holder_X9_refused rfl hd_X9_refused ⟨rfl, rfl, Nat.le_of_ble_eq_true rfl, Nat.le_of_ble_eq_true rfl⟩ hG hP hD hS hA [0, 1, 2, 3, 4, 5, 6] rfl c_Mo_Mo h_Mo (ci := 7) rfl rfl g_Mo_0 rfl hl.1 rfl (Nat.le_of_ble_eq_true rfl) dX9_holder_29 ⟨Nat.le_refl _, Nat.le_refl _⟩ (fun H locs hP hD hS => ?_)
    have hP : va_P D vwCl (wMo cy a0 a1 a2 a3 a4 a5 a6 (mR' mo (1 : Int32))) H := va_P_eq hP r_Mo_Mo
    have hD : va_D A (wMo cy a0 a1 a2 a3 a4 a5 a6 (mR' mo (1 : Int32))) := va_D_eq hD r_Mo_Mo
    refine lv_if_eq (tgt := 37) hx hb dX9_holder_32 (by decide) (fun c => absurd c (rf_lit1 _)) (fun _ => ?_)
    refine lv_iconst (v := (0 : Int32)) hx hb dX9_holder_35 (by decide) ?_
    exact mu_iret hx hb hr hlocks hP hS dX9_holder_36 (by rw [m_X9_holder, if_pos c_11]) (by rw [m_X9_holder, if_pos c_11])
def m_X9_owed (mo : MoT) (x1 : Int32) (x2 : Int32) (x3 : Int32) (x4 : Int32) : Int32 × MoT := if (m_X9_isHolder x1) = (0 : Int32) then ((0 : Int32), mR' mo (1 : Int32)) else if (m_X9_isHolder x2) = (0 : Int32) then ((0 : Int32), mR' mo (1 : Int32)) else if (m_X9_isKind x3) = (0 : Int32) then ((0 : Int32), mR' mo (1 : Int32)) else if (m_X9_isPart x4) = (0 : Int32) then ((0 : Int32), mR' mo (1 : Int32)) else ((mN mo) (m_X9_owedAt x1 x2 x3 x4).toNatClampNeg, mR' mo (0 : Int32))
theorem hd_X9_owed : yX9_owed.cls = RX9 ∧ yX9_owed.cls ≠ "java/lang/invoke/MethodHandle" ∧ yX9_owed.cls ≠ "java/lang/invoke/VarHandle" ∧ (parseMethodDescriptor yX9_owed.desc).map (fun d => d.parameters.length) = some 4 := by decide +kernel
set_option maxHeartbeats 8000000 in
set_option maxRecDepth 20000 in
theorem c_X9_owed (l : Launch) (D : va_G) (cy : Nat → ClassId) (a0 a1 a2 a3 a4 a5 a6 : Nat) (mo : MoT) (x1 : Int32) (x2 : Int32) (x3 : Int32) (x4 : Int32) : MU l D cy yX9_owed wsX9_owed ({ frames := 2, cells := 0, slots := 0, locals := 45 } : Room) (wMo cy a0 a1 a2 a3 a4 a5 a6 mo) (wMo cy a0 a1 a2 a3 a4 a5 a6 (m_X9_owed mo x1 x2 x3 x4).2) [.ref a0, .int x1, .int x2, .int x3, .int x4] (m_X9_owed mo x1 x2 x3 x4).1 := by
  refine MU.body (by decide) rfl (Nat.le_of_ble_eq_true rfl) ?_
  intro p e s m below meth c hx hb hml hr hts hown hlocks hP hG ls hl A hD hA hS
  have hl : lv_has ls 5 [(0, .ref a0), (1, .int x1), (2, .int x2), (3, .int x3), (4, .int x4)] := hl
  have hCF : CallFix p m c cX9_owed 5 s ([.ref a0, .int x1, .int x2, .int x3, .int x4] : List Value).toArray wsX9_owed RX9 := ⟨hx, hb, hml, hown, hts⟩
  have in_X9 : ∀ w ∈ u_ws RX9 TX9 11, w ∈ wsX9_owed := fun _ h => List.mem_cons_of_mem _ (List.mem_append_right _ h)
  have k_0 := hts (Cond.fieldLink RX9 13 "SparePoolModel" "now" "[I") (List.mem_of_getElem? (i := 1) rfl)
  have hP : va_P D vwCl (wMo cy a0 a1 a2 a3 a4 a5 a6 mo) s.heap := hP
  refine lv_aload_n hx hb dX9_owed_0 rfl (lv_at hl 0 rfl) ?_
  refine lv_iload_n hx hb dX9_owed_1 rfl (lv_at hl 1 rfl) ?_
  refine roS (wc := ([] : va_W)) (As := [.int x1]) (rest := [.ref a0]) (c_X9_isHolder l D cy x1) hCF gX9_owed_X9_isHolder rfl hd_X9_isHolder ⟨rfl, rfl, Nat.le_of_ble_eq_true rfl, Nat.le_of_ble_eq_true rfl⟩ hG va_P_nil rfl hl.1 rfl (Nat.le_of_ble_eq_true rfl) dX9_owed_2 ⟨Nat.le_refl _, Nat.le_refl _⟩ ?_
  refine lv_if_eq (tgt := 34) hx hb dX9_owed_5 (by decide) (fun c_1 => ?_) (fun c_1 => ?_)
  · skip
    refine lv_iconst (v := (1 : Int32)) hx hb dX9_owed_34 (by decide) ?_
    refine muV (A0 := A) (wc := (wMo cy a0 a1 a2 a3 a4 a5 a6 mo)) (As := [.int (1 : Int32)]) (rest := []) (c_X9_refused l D cy a0 a1 a2 a3 a4 a5 a6 mo (1 : Int32)) hCF gX9_owed_X9_refused rfl hd_X9_refused ⟨rfl, rfl, Nat.le_of_ble_eq_true rfl, Nat.le_of_ble_eq_true rfl⟩ hG hP hD hS hA [0, 1, 2, 3, 4, 5, 6] rfl c_Mo_Mo h_Mo (ci := 7) rfl rfl g_Mo_0 rfl hl.1 rfl (Nat.le_of_ble_eq_true rfl) dX9_owed_35 ⟨Nat.le_refl _, Nat.le_refl _⟩ (fun H locs hP hD hS => ?_)
    have hP : va_P D vwCl (wMo cy a0 a1 a2 a3 a4 a5 a6 (mR' mo (1 : Int32))) H := va_P_eq hP r_Mo_Mo
    have hD : va_D A (wMo cy a0 a1 a2 a3 a4 a5 a6 (mR' mo (1 : Int32))) := va_D_eq hD r_Mo_Mo
    refine lv_if_eq (tgt := 43) hx hb dX9_owed_38 (by decide) (fun c => absurd c (rf_lit1 _)) (fun _ => ?_)
    refine lv_iconst (v := (0 : Int32)) hx hb dX9_owed_41 (by decide) ?_
    exact mu_iret hx hb hr hlocks hP hS dX9_owed_42 (by rw [m_X9_owed, if_pos c_1]) (by rw [m_X9_owed, if_pos c_1])
  · skip
    refine lv_iload_n hx hb dX9_owed_8 rfl (lv_at hl 2 rfl) ?_
    refine roS (wc := ([] : va_W)) (As := [.int x2]) (rest := [.ref a0]) (c_X9_isHolder l D cy x2) hCF gX9_owed_X9_isHolder rfl hd_X9_isHolder ⟨rfl, rfl, Nat.le_of_ble_eq_true rfl, Nat.le_of_ble_eq_true rfl⟩ hG va_P_nil rfl hl.1 rfl (Nat.le_of_ble_eq_true rfl) dX9_owed_9 ⟨Nat.le_refl _, Nat.le_refl _⟩ ?_
    refine lv_if_eq (tgt := 34) hx hb dX9_owed_12 (by decide) (fun c_2 => ?_) (fun c_2 => ?_)
    · skip
      refine lv_iconst (v := (1 : Int32)) hx hb dX9_owed_34 (by decide) ?_
      refine muV (A0 := A) (wc := (wMo cy a0 a1 a2 a3 a4 a5 a6 mo)) (As := [.int (1 : Int32)]) (rest := []) (c_X9_refused l D cy a0 a1 a2 a3 a4 a5 a6 mo (1 : Int32)) hCF gX9_owed_X9_refused rfl hd_X9_refused ⟨rfl, rfl, Nat.le_of_ble_eq_true rfl, Nat.le_of_ble_eq_true rfl⟩ hG hP hD hS hA [0, 1, 2, 3, 4, 5, 6] rfl c_Mo_Mo h_Mo (ci := 7) rfl rfl g_Mo_0 rfl hl.1 rfl (Nat.le_of_ble_eq_true rfl) dX9_owed_35 ⟨Nat.le_refl _, Nat.le_refl _⟩ (fun H locs hP hD hS => ?_)
      have hP : va_P D vwCl (wMo cy a0 a1 a2 a3 a4 a5 a6 (mR' mo (1 : Int32))) H := va_P_eq hP r_Mo_Mo
      have hD : va_D A (wMo cy a0 a1 a2 a3 a4 a5 a6 (mR' mo (1 : Int32))) := va_D_eq hD r_Mo_Mo
      refine lv_if_eq (tgt := 43) hx hb dX9_owed_38 (by decide) (fun c => absurd c (rf_lit1 _)) (fun _ => ?_)
      refine lv_iconst (v := (0 : Int32)) hx hb dX9_owed_41 (by decide) ?_
      exact mu_iret hx hb hr hlocks hP hS dX9_owed_42 (by rw [m_X9_owed, if_neg c_1, if_pos c_2]) (by rw [m_X9_owed, if_neg c_1, if_pos c_2])
    · skip
      refine lv_iload_n hx hb dX9_owed_15 rfl (lv_at hl 3 rfl) ?_
      refine roS (wc := ([] : va_W)) (As := [.int x3]) (rest := [.ref a0]) (c_X9_isKind l D cy x3) hCF gX9_owed_X9_isKind rfl hd_X9_isKind ⟨rfl, rfl, Nat.le_of_ble_eq_true rfl, Nat.le_of_ble_eq_true rfl⟩ hG va_P_nil rfl hl.1 rfl (Nat.le_of_ble_eq_true rfl) dX9_owed_16 ⟨Nat.le_refl _, Nat.le_refl _⟩ ?_
      refine lv_if_eq (tgt := 34) hx hb dX9_owed_19 (by decide) (fun c_3 => ?_) (fun c_3 => ?_)
      · skip
        refine lv_iconst (v := (1 : Int32)) hx hb dX9_owed_34 (by decide) ?_
        refine muV (A0 := A) (wc := (wMo cy a0 a1 a2 a3 a4 a5 a6 mo)) (As := [.int (1 : Int32)]) (rest := []) (c_X9_refused l D cy a0 a1 a2 a3 a4 a5 a6 mo (1 : Int32)) hCF gX9_owed_X9_refused rfl hd_X9_refused ⟨rfl, rfl, Nat.le_of_ble_eq_true rfl, Nat.le_of_ble_eq_true rfl⟩ hG hP hD hS hA [0, 1, 2, 3, 4, 5, 6] rfl c_Mo_Mo h_Mo (ci := 7) rfl rfl g_Mo_0 rfl hl.1 rfl (Nat.le_of_ble_eq_true rfl) dX9_owed_35 ⟨Nat.le_refl _, Nat.le_refl _⟩ (fun H locs hP hD hS => ?_)
        have hP : va_P D vwCl (wMo cy a0 a1 a2 a3 a4 a5 a6 (mR' mo (1 : Int32))) H := va_P_eq hP r_Mo_Mo
        have hD : va_D A (wMo cy a0 a1 a2 a3 a4 a5 a6 (mR' mo (1 : Int32))) := va_D_eq hD r_Mo_Mo
        refine lv_if_eq (tgt := 43) hx hb dX9_owed_38 (by decide) (fun c => absurd c (rf_lit1 _)) (fun _ => ?_)
        refine lv_iconst (v := (0 : Int32)) hx hb dX9_owed_41 (by decide) ?_
        exact mu_iret hx hb hr hlocks hP hS dX9_owed_42 (by rw [m_X9_owed, if_neg c_1, if_neg c_2, if_pos c_3]) (by rw [m_X9_owed, if_neg c_1, if_neg c_2, if_pos c_3])
      · skip
        refine lv_iload hx hb dX9_owed_22 (lv_at hl 4 rfl) ?_
        refine roS (wc := ([] : va_W)) (As := [.int x4]) (rest := [.ref a0]) (c_X9_isPart l D cy x4) hCF gX9_owed_X9_isPart rfl hd_X9_isPart ⟨rfl, rfl, Nat.le_of_ble_eq_true rfl, Nat.le_of_ble_eq_true rfl⟩ hG va_P_nil rfl hl.1 rfl (Nat.le_of_ble_eq_true rfl) dX9_owed_24 ⟨Nat.le_refl _, Nat.le_refl _⟩ ?_
        refine lv_if_eq (tgt := 34) hx hb dX9_owed_27 (by decide) (fun c_4 => ?_) (fun c_4 => ?_)
        · skip
          refine lv_iconst (v := (1 : Int32)) hx hb dX9_owed_34 (by decide) ?_
          refine muV (A0 := A) (wc := (wMo cy a0 a1 a2 a3 a4 a5 a6 mo)) (As := [.int (1 : Int32)]) (rest := []) (c_X9_refused l D cy a0 a1 a2 a3 a4 a5 a6 mo (1 : Int32)) hCF gX9_owed_X9_refused rfl hd_X9_refused ⟨rfl, rfl, Nat.le_of_ble_eq_true rfl, Nat.le_of_ble_eq_true rfl⟩ hG hP hD hS hA [0, 1, 2, 3, 4, 5, 6] rfl c_Mo_Mo h_Mo (ci := 7) rfl rfl g_Mo_0 rfl hl.1 rfl (Nat.le_of_ble_eq_true rfl) dX9_owed_35 ⟨Nat.le_refl _, Nat.le_refl _⟩ (fun H locs hP hD hS => ?_)
          have hP : va_P D vwCl (wMo cy a0 a1 a2 a3 a4 a5 a6 (mR' mo (1 : Int32))) H := va_P_eq hP r_Mo_Mo
          have hD : va_D A (wMo cy a0 a1 a2 a3 a4 a5 a6 (mR' mo (1 : Int32))) := va_D_eq hD r_Mo_Mo
          refine lv_if_eq (tgt := 43) hx hb dX9_owed_38 (by decide) (fun c => absurd c (rf_lit1 _)) (fun _ => ?_)
          refine lv_iconst (v := (0 : Int32)) hx hb dX9_owed_41 (by decide) ?_
          exact mu_iret hx hb hr hlocks hP hS dX9_owed_42 (by rw [m_X9_owed, if_neg c_1, if_neg c_2, if_neg c_3, if_pos c_4]) (by rw [m_X9_owed, if_neg c_1, if_neg c_2, if_neg c_3, if_pos c_4])
        · skip
          refine lv_iconst (v := (0 : Int32)) hx hb dX9_owed_30 (by decide) ?_
          refine lv_goto (tgt := 35) hx hb dX9_owed_31 (by decide) ?_
          refine muV (A0 := A) (wc := (wMo cy a0 a1 a2 a3 a4 a5 a6 mo)) (As := [.int (0 : Int32)]) (rest := []) (c_X9_refused l D cy a0 a1 a2 a3 a4 a5 a6 mo (0 : Int32)) hCF gX9_owed_X9_refused rfl hd_X9_refused ⟨rfl, rfl, Nat.le_of_ble_eq_true rfl, Nat.le_of_ble_eq_true rfl⟩ hG hP hD hS hA [0, 1, 2, 3, 4, 5, 6] rfl c_Mo_Mo h_Mo (ci := 7) rfl rfl g_Mo_0 rfl hl.1 rfl (Nat.le_of_ble_eq_true rfl) dX9_owed_35 ⟨Nat.le_refl _, Nat.le_refl _⟩ (fun H locs hP hD hS => ?_)
          have hP : va_P D vwCl (wMo cy a0 a1 a2 a3 a4 a5 a6 (mR' mo (0 : Int32))) H := va_P_eq hP r_Mo_Mo
          have hD : va_D A (wMo cy a0 a1 a2 a3 a4 a5 a6 (mR' mo (0 : Int32))) := va_D_eq hD r_Mo_Mo
          refine lv_if_eq (tgt := 43) hx hb dX9_owed_38 (by decide) (fun _ => ?_) (fun c => absurd (rf_lit0 _) c)
          refine lv_aload_n hx hb dX9_owed_43 rfl (lv_at hl 0 rfl) ?_
          refine va_get (D := D) (ci := 7) (v := .ref a2) (C := RX9) (T := TX9) (N := 11) hx hb hts in_X9 hown hG.1 hP 0 g_Mo_0 rfl 3 (by decide) k_0 (fun _ h9 => h9) rfl dX9_owed_44 ?_
          refine lv_iload_n hx hb dX9_owed_47 rfl (lv_at hl 1 rfl) ?_
          refine lv_iload_n hx hb dX9_owed_48 rfl (lv_at hl 2 rfl) ?_
          refine lv_iload_n hx hb dX9_owed_49 rfl (lv_at hl 3 rfl) ?_
          refine lv_iload hx hb dX9_owed_50 (lv_at hl 4 rfl) ?_
          refine roS (wc := ([] : va_W)) (As := [.int x1, .int x2, .int x3, .int x4]) (rest := [.ref a2]) (c_X9_owedAt l D cy x1 x2 x3 x4) hCF gX9_owed_X9_owedAt rfl hd_X9_owedAt ⟨rfl, rfl, Nat.le_of_ble_eq_true rfl, Nat.le_of_ble_eq_true rfl⟩ hG va_P_nil rfl hl.1 rfl (Nat.le_of_ble_eq_true rfl) dX9_owed_52 ⟨Nat.le_refl _, Nat.le_refl _⟩ ?_
          refine va_iald hx hb hG.1 hP 2 0 (n := 383) (f := (mN mo)) g_Mo_2 rfl (iv_in (iv_owedAt (iv_isHolder c_1) (iv_isHolder c_2) (iv_isKind c_3) (iv_isPart c_4)) (by decide) (by decide)) dX9_owed_55 ?_
          exact mu_iret hx hb hr hlocks hP hS dX9_owed_56 (by rw [m_X9_owed, if_neg c_1, if_neg c_2, if_neg c_3, if_neg c_4]) (by rw [m_X9_owed, if_neg c_1, if_neg c_2, if_neg c_3, if_neg c_4])
def m_X9_core (mo : MoT) (x1 : Int32) (x2 : Int32) (x3 : Int32) : Int32 × MoT := if (m_X9_isHolder x1) = (0 : Int32) then ((0 : Int32), mR' mo (1 : Int32)) else if x2 < (0 : Int32) then ((0 : Int32), mR' mo (2 : Int32)) else if (m_X9_in x3.toInt64 (0 : Int64) (1 : Int64)) = (0 : Int32) then ((0 : Int32), mR' mo (2 : Int32)) else if ((mN mo) (m_X9_coresAt x1).toNatClampNeg) ≤ x2 then ((-1 : Int32), mR' mo (0 : Int32)) else ((mN mo) ((((m_X9_coresAt x1) + (1 : Int32)) + ((2 : Int32) * x2)) + x3).toNatClampNeg, mR' mo (0 : Int32))
theorem hd_X9_core : yX9_core.cls = RX9 ∧ yX9_core.cls ≠ "java/lang/invoke/MethodHandle" ∧ yX9_core.cls ≠ "java/lang/invoke/VarHandle" ∧ (parseMethodDescriptor yX9_core.desc).map (fun d => d.parameters.length) = some 3 := by decide +kernel
set_option maxHeartbeats 8000000 in
set_option maxRecDepth 20000 in
theorem c_X9_core (l : Launch) (D : va_G) (cy : Nat → ClassId) (a0 a1 a2 a3 a4 a5 a6 : Nat) (mo : MoT) (x1 : Int32) (x2 : Int32) (x3 : Int32) (hM : rOK (mN mo)) : MU l D cy yX9_core wsX9_core ({ frames := 2, cells := 0, slots := 0, locals := 45 } : Room) (wMo cy a0 a1 a2 a3 a4 a5 a6 mo) (wMo cy a0 a1 a2 a3 a4 a5 a6 (m_X9_core mo x1 x2 x3).2) [.ref a0, .int x1, .int x2, .int x3] (m_X9_core mo x1 x2 x3).1 := by
  refine MU.body (by decide) rfl (Nat.le_of_ble_eq_true rfl) ?_
  intro p e s m below meth c hx hb hml hr hts hown hlocks hP hG ls hl A hD hA hS
  have hl : lv_has ls 4 [(0, .ref a0), (1, .int x1), (2, .int x2), (3, .int x3)] := hl
  have hCF : CallFix p m c cX9_core 4 s ([.ref a0, .int x1, .int x2, .int x3] : List Value).toArray wsX9_core RX9 := ⟨hx, hb, hml, hown, hts⟩
  have in_X9 : ∀ w ∈ u_ws RX9 TX9 11, w ∈ wsX9_core := fun _ h => List.mem_cons_of_mem _ (List.mem_append_right _ h)
  have k_0 := hts (Cond.fieldLink RX9 13 "SparePoolModel" "now" "[I") (List.mem_of_getElem? (i := 1) rfl)
  have hP : va_P D vwCl (wMo cy a0 a1 a2 a3 a4 a5 a6 mo) s.heap := hP
  refine lv_aload_n hx hb dX9_core_0 rfl (lv_at hl 0 rfl) ?_
  refine lv_iload_n hx hb dX9_core_1 rfl (lv_at hl 1 rfl) ?_
  refine roS (wc := ([] : va_W)) (As := [.int x1]) (rest := [.ref a0]) (c_X9_isHolder l D cy x1) hCF gX9_core_X9_isHolder rfl hd_X9_isHolder ⟨rfl, rfl, Nat.le_of_ble_eq_true rfl, Nat.le_of_ble_eq_true rfl⟩ hG va_P_nil rfl hl.1 rfl (Nat.le_of_ble_eq_true rfl) dX9_core_2 ⟨Nat.le_refl _, Nat.le_refl _⟩ ?_
  refine lv_if_ne (tgt := 12) hx hb dX9_core_5 (by decide) (fun c_1 => ?_) (fun c_1 => ?_)
  · skip
    refine lv_iload_n hx hb dX9_core_12 rfl (lv_at hl 2 rfl) ?_
    refine lv_if_lt (tgt := 30) hx hb dX9_core_13 (by decide) (fun c_2 => ?_) (fun c_2 => ?_)
    · skip
      refine lv_iconst (v := (2 : Int32)) hx hb dX9_core_30 (by decide) ?_
      refine muV (A0 := A) (wc := (wMo cy a0 a1 a2 a3 a4 a5 a6 mo)) (As := [.int (2 : Int32)]) (rest := []) (c_X9_refused l D cy a0 a1 a2 a3 a4 a5 a6 mo (2 : Int32)) hCF gX9_core_X9_refused rfl hd_X9_refused ⟨rfl, rfl, Nat.le_of_ble_eq_true rfl, Nat.le_of_ble_eq_true rfl⟩ hG hP hD hS hA [0, 1, 2, 3, 4, 5, 6] rfl c_Mo_Mo h_Mo (ci := 7) rfl rfl g_Mo_0 rfl hl.1 rfl (Nat.le_of_ble_eq_true rfl) dX9_core_31 ⟨Nat.le_refl _, Nat.le_refl _⟩ (fun H locs hP hD hS => ?_)
      have hP : va_P D vwCl (wMo cy a0 a1 a2 a3 a4 a5 a6 (mR' mo (2 : Int32))) H := va_P_eq hP r_Mo_Mo
      have hD : va_D A (wMo cy a0 a1 a2 a3 a4 a5 a6 (mR' mo (2 : Int32))) := va_D_eq hD r_Mo_Mo
      refine lv_if_eq (tgt := 39) hx hb dX9_core_34 (by decide) (fun c => absurd c (rf_lit2 _)) (fun _ => ?_)
      refine lv_iconst (v := (0 : Int32)) hx hb dX9_core_37 (by decide) ?_
      exact mu_iret hx hb hr hlocks hP hS dX9_core_38 (by rw [m_X9_core, if_neg c_1, if_pos c_2]) (by rw [m_X9_core, if_neg c_1, if_pos c_2])
    · skip
      refine lv_iload_n hx hb dX9_core_16 rfl (lv_at hl 3 rfl) ?_
      refine lv_i2l hx hb dX9_core_17 rfl ?_
      refine lv_lconst (v := (0 : Int64)) hx hb dX9_core_18 (by decide) ?_
      refine lv_lconst (v := (1 : Int64)) hx hb dX9_core_19 (by decide) ?_
      refine roS (wc := ([] : va_W)) (As := [.long x3.toInt64, .long (0 : Int64), .long (1 : Int64)]) (rest := [.ref a0]) (c_X9_in l D cy x3.toInt64 (0 : Int64) (1 : Int64)) hCF gX9_core_X9_in rfl hd_X9_in ⟨rfl, rfl, Nat.le_of_ble_eq_true rfl, Nat.le_of_ble_eq_true rfl⟩ hG va_P_nil rfl hl.1 rfl (Nat.le_of_ble_eq_true rfl) dX9_core_20 ⟨Nat.le_refl _, Nat.le_refl _⟩ ?_
      refine lv_if_eq (tgt := 30) hx hb dX9_core_23 (by decide) (fun c_3 => ?_) (fun c_3 => ?_)
      · skip
        refine lv_iconst (v := (2 : Int32)) hx hb dX9_core_30 (by decide) ?_
        refine muV (A0 := A) (wc := (wMo cy a0 a1 a2 a3 a4 a5 a6 mo)) (As := [.int (2 : Int32)]) (rest := []) (c_X9_refused l D cy a0 a1 a2 a3 a4 a5 a6 mo (2 : Int32)) hCF gX9_core_X9_refused rfl hd_X9_refused ⟨rfl, rfl, Nat.le_of_ble_eq_true rfl, Nat.le_of_ble_eq_true rfl⟩ hG hP hD hS hA [0, 1, 2, 3, 4, 5, 6] rfl c_Mo_Mo h_Mo (ci := 7) rfl rfl g_Mo_0 rfl hl.1 rfl (Nat.le_of_ble_eq_true rfl) dX9_core_31 ⟨Nat.le_refl _, Nat.le_refl _⟩ (fun H locs hP hD hS => ?_)
        have hP : va_P D vwCl (wMo cy a0 a1 a2 a3 a4 a5 a6 (mR' mo (2 : Int32))) H := va_P_eq hP r_Mo_Mo
        have hD : va_D A (wMo cy a0 a1 a2 a3 a4 a5 a6 (mR' mo (2 : Int32))) := va_D_eq hD r_Mo_Mo
        refine lv_if_eq (tgt := 39) hx hb dX9_core_34 (by decide) (fun c => absurd c (rf_lit2 _)) (fun _ => ?_)
        refine lv_iconst (v := (0 : Int32)) hx hb dX9_core_37 (by decide) ?_
        exact mu_iret hx hb hr hlocks hP hS dX9_core_38 (by rw [m_X9_core, if_neg c_1, if_neg c_2, if_pos c_3]) (by rw [m_X9_core, if_neg c_1, if_neg c_2, if_pos c_3])
      · skip
        refine lv_iconst (v := (0 : Int32)) hx hb dX9_core_26 (by decide) ?_
        refine lv_goto (tgt := 31) hx hb dX9_core_27 (by decide) ?_
        refine muV (A0 := A) (wc := (wMo cy a0 a1 a2 a3 a4 a5 a6 mo)) (As := [.int (0 : Int32)]) (rest := []) (c_X9_refused l D cy a0 a1 a2 a3 a4 a5 a6 mo (0 : Int32)) hCF gX9_core_X9_refused rfl hd_X9_refused ⟨rfl, rfl, Nat.le_of_ble_eq_true rfl, Nat.le_of_ble_eq_true rfl⟩ hG hP hD hS hA [0, 1, 2, 3, 4, 5, 6] rfl c_Mo_Mo h_Mo (ci := 7) rfl rfl g_Mo_0 rfl hl.1 rfl (Nat.le_of_ble_eq_true rfl) dX9_core_31 ⟨Nat.le_refl _, Nat.le_refl _⟩ (fun H locs hP hD hS => ?_)
        have hP : va_P D vwCl (wMo cy a0 a1 a2 a3 a4 a5 a6 (mR' mo (0 : Int32))) H := va_P_eq hP r_Mo_Mo
        have hD : va_D A (wMo cy a0 a1 a2 a3 a4 a5 a6 (mR' mo (0 : Int32))) := va_D_eq hD r_Mo_Mo
        refine lv_if_eq (tgt := 39) hx hb dX9_core_34 (by decide) (fun _ => ?_) (fun c => absurd (rf_lit0 _) c)
        refine lv_iload_n hx hb dX9_core_39 rfl (lv_at hl 2 rfl) ?_
        refine lv_aload_n hx hb dX9_core_40 rfl (lv_at hl 0 rfl) ?_
        refine va_get (D := D) (ci := 7) (v := .ref a2) (C := RX9) (T := TX9) (N := 11) hx hb hts in_X9 hown hG.1 hP 0 g_Mo_0 rfl 3 (by decide) k_0 (fun _ h9 => h9) rfl dX9_core_41 ?_
        refine lv_iload_n hx hb dX9_core_44 rfl (lv_at hl 1 rfl) ?_
        refine roS (wc := ([] : va_W)) (As := [.int x1]) (rest := [.ref a2, .int x2]) (c_X9_coresAt l D cy x1) hCF gX9_core_X9_coresAt rfl hd_X9_coresAt ⟨rfl, rfl, Nat.le_of_ble_eq_true rfl, Nat.le_of_ble_eq_true rfl⟩ hG va_P_nil rfl hl.1 rfl (Nat.le_of_ble_eq_true rfl) dX9_core_45 ⟨Nat.le_refl _, Nat.le_refl _⟩ ?_
        refine va_iald hx hb hG.1 hP 2 0 (n := 383) (f := (mN mo)) g_Mo_2 rfl (iv_in (iv_coresAt (iv_isHolder c_1)) (by decide) (by decide)) dX9_core_48 ?_
        refine lv_icmp_ge (tgt := 72) hx hb dX9_core_49 (by decide) (fun c_4 => ?_) (fun c_4 => ?_)
        · skip
          refine lv_iconst (v := (-1 : Int32)) hx hb dX9_core_72 (by decide) ?_
          exact mu_iret hx hb hr hlocks hP hS dX9_core_73 (by rw [m_X9_core, if_neg c_1, if_neg c_2, if_neg c_3, if_pos c_4]) (by rw [m_X9_core, if_neg c_1, if_neg c_2, if_neg c_3, if_pos c_4])
        · skip
          refine lv_aload_n hx hb dX9_core_52 rfl (lv_at hl 0 rfl) ?_
          refine va_get (D := D) (ci := 7) (v := .ref a2) (C := RX9) (T := TX9) (N := 11) hx hb hts in_X9 hown hG.1 hP 0 g_Mo_0 rfl 3 (by decide) k_0 (fun _ h9 => h9) rfl dX9_core_53 ?_
          refine lv_iload_n hx hb dX9_core_56 rfl (lv_at hl 1 rfl) ?_
          refine roS (wc := ([] : va_W)) (As := [.int x1]) (rest := [.ref a2]) (c_X9_coresAt l D cy x1) hCF gX9_core_X9_coresAt rfl hd_X9_coresAt ⟨rfl, rfl, Nat.le_of_ble_eq_true rfl, Nat.le_of_ble_eq_true rfl⟩ hG va_P_nil rfl hl.1 rfl (Nat.le_of_ble_eq_true rfl) dX9_core_57 ⟨Nat.le_refl _, Nat.le_refl _⟩ ?_
          refine lv_iconst (v := (1 : Int32)) hx hb dX9_core_60 (by decide) ?_
          refine lv_iadd hx hb dX9_core_61 ?_
          refine lv_iconst (v := (2 : Int32)) hx hb dX9_core_62 (by decide) ?_
          refine lv_iload_n hx hb dX9_core_63 rfl (lv_at hl 2 rfl) ?_
          refine lv_imul hx hb dX9_core_64 ?_
          refine lv_iadd hx hb dX9_core_65 ?_
          refine lv_iload_n hx hb dX9_core_66 rfl (lv_at hl 3 rfl) ?_
          refine lv_iadd hx hb dX9_core_67 ?_
          refine va_iald hx hb hG.1 hP 2 0 (n := 383) (f := (mN mo)) g_Mo_2 rfl (iv_in (iv_add (l := 319) (h := 382) (iv_add (l := 319) (h := 381) (iv_add (l := 319) (h := 371) (iv_coresAt (iv_isHolder c_1)) (iv_lit (v := 1) (by decide)) (by decide)) (iv_mul (l := 0) (h := 10) (iv_lit (v := 2) (by decide)) (iv_lu (h := 5) c_2 c_4 (rk_cores hM (iv_isHolder c_1)) (by decide)) (by decide)) (by decide)) (iv_min (lo := 0) (hi := 1) c_3) (by decide)) (by decide) (by decide)) dX9_core_68 ?_
          refine lv_goto (tgt := 73) hx hb dX9_core_69 (by decide) ?_
          exact mu_iret hx hb hr hlocks hP hS dX9_core_73 (by rw [m_X9_core, if_neg c_1, if_neg c_2, if_neg c_3, if_neg c_4]) (by rw [m_X9_core, if_neg c_1, if_neg c_2, if_neg c_3, if_neg c_4])
  · skip
    refine lv_iconst (v := (1 : Int32)) hx hb dX9_core_8 (by decide) ?_
    refine lv_goto (tgt := 31) hx hb dX9_core_9 (by decide) ?_
    refine muV (A0 := A) (wc := (wMo cy a0 a1 a2 a3 a4 a5 a6 mo)) (As := [.int (1 : Int32)]) (rest := []) (c_X9_refused l D cy a0 a1 a2 a3 a4 a5 a6 mo (1 : Int32)) hCF gX9_core_X9_refused rfl hd_X9_refused ⟨rfl, rfl, Nat.le_of_ble_eq_true rfl, Nat.le_of_ble_eq_true rfl⟩ hG hP hD hS hA [0, 1, 2, 3, 4, 5, 6] rfl c_Mo_Mo h_Mo (ci := 7) rfl rfl g_Mo_0 rfl hl.1 rfl (Nat.le_of_ble_eq_true rfl) dX9_core_31 ⟨Nat.le_refl _, Nat.le_refl _⟩ (fun H locs hP hD hS => ?_)
    have hP : va_P D vwCl (wMo cy a0 a1 a2 a3 a4 a5 a6 (mR' mo (1 : Int32))) H := va_P_eq hP r_Mo_Mo
    have hD : va_D A (wMo cy a0 a1 a2 a3 a4 a5 a6 (mR' mo (1 : Int32))) := va_D_eq hD r_Mo_Mo
    refine lv_if_eq (tgt := 39) hx hb dX9_core_34 (by decide) (fun c => absurd c (rf_lit1 _)) (fun _ => ?_)
    refine lv_iconst (v := (0 : Int32)) hx hb dX9_core_37 (by decide) ?_
    exact mu_iret hx hb hr hlocks hP hS dX9_core_38 (by rw [m_X9_core, if_pos c_1]) (by rw [m_X9_core, if_pos c_1])
def m_X9_setting (mo : MoT) (x1 : Int32) : Int32 × MoT := if (m_X9_in x1.toInt64 (0 : Int64) (2 : Int64)) = (0 : Int32) then ((0 : Int32), mR' mo (1 : Int32)) else ((mN mo) ((2 : Int32) + x1).toNatClampNeg, mR' mo (0 : Int32))
theorem hd_X9_setting : yX9_setting.cls = RX9 ∧ yX9_setting.cls ≠ "java/lang/invoke/MethodHandle" ∧ yX9_setting.cls ≠ "java/lang/invoke/VarHandle" ∧ (parseMethodDescriptor yX9_setting.desc).map (fun d => d.parameters.length) = some 1 := by decide +kernel
set_option maxHeartbeats 8000000 in
set_option maxRecDepth 20000 in
theorem c_X9_setting (l : Launch) (D : va_G) (cy : Nat → ClassId) (a0 a1 a2 a3 a4 a5 a6 : Nat) (mo : MoT) (x1 : Int32) : MU l D cy yX9_setting wsX9_setting ({ frames := 1, cells := 0, slots := 0, locals := 25 } : Room) (wMo cy a0 a1 a2 a3 a4 a5 a6 mo) (wMo cy a0 a1 a2 a3 a4 a5 a6 (m_X9_setting mo x1).2) [.ref a0, .int x1] (m_X9_setting mo x1).1 := by
  refine MU.body (by decide) rfl (Nat.le_of_ble_eq_true rfl) ?_
  intro p e s m below meth c hx hb hml hr hts hown hlocks hP hG ls hl A hD hA hS
  have hl : lv_has ls 2 [(0, .ref a0), (1, .int x1)] := hl
  have hCF : CallFix p m c cX9_setting 2 s ([.ref a0, .int x1] : List Value).toArray wsX9_setting RX9 := ⟨hx, hb, hml, hown, hts⟩
  have in_X9 : ∀ w ∈ u_ws RX9 TX9 11, w ∈ wsX9_setting := fun _ h => List.mem_cons_of_mem _ (List.mem_append_right _ h)
  have k_0 := hts (Cond.constantLong RX9 43 (2)) (List.mem_of_getElem? (i := 1) rfl)
  have k_1 := hts (Cond.fieldLink RX9 13 "SparePoolModel" "now" "[I") (List.mem_of_getElem? (i := 2) rfl)
  have hP : va_P D vwCl (wMo cy a0 a1 a2 a3 a4 a5 a6 mo) s.heap := hP
  refine lv_aload_n hx hb dX9_setting_0 rfl (lv_at hl 0 rfl) ?_
  refine lv_iload_n hx hb dX9_setting_1 rfl (lv_at hl 1 rfl) ?_
  refine lv_i2l hx hb dX9_setting_2 rfl ?_
  refine lv_lconst (v := (0 : Int64)) hx hb dX9_setting_3 (by decide) ?_
  refine lv_ldc2 (v := (2 : Int64)) hx hb hown k_0 dX9_setting_4 ?_
  refine roS (wc := ([] : va_W)) (As := [.long x1.toInt64, .long (0 : Int64), .long (2 : Int64)]) (rest := [.ref a0]) (c_X9_in l D cy x1.toInt64 (0 : Int64) (2 : Int64)) hCF gX9_setting_X9_in rfl hd_X9_in ⟨rfl, rfl, Nat.le_of_ble_eq_true rfl, Nat.le_of_ble_eq_true rfl⟩ hG va_P_nil rfl hl.1 rfl (Nat.le_of_ble_eq_true rfl) dX9_setting_7 ⟨Nat.le_refl _, Nat.le_refl _⟩ ?_
  refine lv_if_eq (tgt := 17) hx hb dX9_setting_10 (by decide) (fun c_1 => ?_) (fun c_1 => ?_)
  · skip
    refine lv_iconst (v := (1 : Int32)) hx hb dX9_setting_17 (by decide) ?_
    refine muV (A0 := A) (wc := (wMo cy a0 a1 a2 a3 a4 a5 a6 mo)) (As := [.int (1 : Int32)]) (rest := []) (c_X9_refused l D cy a0 a1 a2 a3 a4 a5 a6 mo (1 : Int32)) hCF gX9_setting_X9_refused rfl hd_X9_refused ⟨rfl, rfl, Nat.le_of_ble_eq_true rfl, Nat.le_of_ble_eq_true rfl⟩ hG hP hD hS hA [0, 1, 2, 3, 4, 5, 6] rfl c_Mo_Mo h_Mo (ci := 7) rfl rfl g_Mo_0 rfl hl.1 rfl (Nat.le_of_ble_eq_true rfl) dX9_setting_18 ⟨Nat.le_refl _, Nat.le_refl _⟩ (fun H locs hP hD hS => ?_)
    have hP : va_P D vwCl (wMo cy a0 a1 a2 a3 a4 a5 a6 (mR' mo (1 : Int32))) H := va_P_eq hP r_Mo_Mo
    have hD : va_D A (wMo cy a0 a1 a2 a3 a4 a5 a6 (mR' mo (1 : Int32))) := va_D_eq hD r_Mo_Mo
    refine lv_if_eq (tgt := 26) hx hb dX9_setting_21 (by decide) (fun c => absurd c (rf_lit1 _)) (fun _ => ?_)
    refine lv_iconst (v := (0 : Int32)) hx hb dX9_setting_24 (by decide) ?_
    exact mu_iret hx hb hr hlocks hP hS dX9_setting_25 (by rw [m_X9_setting, if_pos c_1]) (by rw [m_X9_setting, if_pos c_1])
  · skip
    refine lv_iconst (v := (0 : Int32)) hx hb dX9_setting_13 (by decide) ?_
    refine lv_goto (tgt := 18) hx hb dX9_setting_14 (by decide) ?_
    refine muV (A0 := A) (wc := (wMo cy a0 a1 a2 a3 a4 a5 a6 mo)) (As := [.int (0 : Int32)]) (rest := []) (c_X9_refused l D cy a0 a1 a2 a3 a4 a5 a6 mo (0 : Int32)) hCF gX9_setting_X9_refused rfl hd_X9_refused ⟨rfl, rfl, Nat.le_of_ble_eq_true rfl, Nat.le_of_ble_eq_true rfl⟩ hG hP hD hS hA [0, 1, 2, 3, 4, 5, 6] rfl c_Mo_Mo h_Mo (ci := 7) rfl rfl g_Mo_0 rfl hl.1 rfl (Nat.le_of_ble_eq_true rfl) dX9_setting_18 ⟨Nat.le_refl _, Nat.le_refl _⟩ (fun H locs hP hD hS => ?_)
    have hP : va_P D vwCl (wMo cy a0 a1 a2 a3 a4 a5 a6 (mR' mo (0 : Int32))) H := va_P_eq hP r_Mo_Mo
    have hD : va_D A (wMo cy a0 a1 a2 a3 a4 a5 a6 (mR' mo (0 : Int32))) := va_D_eq hD r_Mo_Mo
    refine lv_if_eq (tgt := 26) hx hb dX9_setting_21 (by decide) (fun _ => ?_) (fun c => absurd (rf_lit0 _) c)
    refine lv_aload_n hx hb dX9_setting_26 rfl (lv_at hl 0 rfl) ?_
    refine va_get (D := D) (ci := 7) (v := .ref a2) (C := RX9) (T := TX9) (N := 11) hx hb hts in_X9 hown hG.1 hP 0 g_Mo_0 rfl 3 (by decide) k_1 (fun _ h9 => h9) rfl dX9_setting_27 ?_
    refine lv_iconst (v := (2 : Int32)) hx hb dX9_setting_30 (by decide) ?_
    refine lv_iload_n hx hb dX9_setting_31 rfl (lv_at hl 1 rfl) ?_
    refine lv_iadd hx hb dX9_setting_32 ?_
    refine va_iald hx hb hG.1 hP 2 0 (n := 383) (f := (mN mo)) g_Mo_2 rfl (iv_in (iv_add (l := 2) (h := 4) (iv_lit (v := 2) (by decide)) (iv_min (lo := 0) (hi := 2) c_1) (by decide)) (by decide) (by decide)) dX9_setting_33 ?_
    exact mu_iret hx hb hr hlocks hP hS dX9_setting_34 (by rw [m_X9_setting, if_neg c_1]) (by rw [m_X9_setting, if_neg c_1])
def m_X9_complete (mo : MoT) (x1 : Int32) (x2 : Int32) : Int32 × MoT := if (m_X9_isHolder x1) = (0 : Int32) then ((0 : Int32), mR' mo (1 : Int32)) else if (m_X9_isKind x2) = (0 : Int32) then ((0 : Int32), mR' mo (1 : Int32)) else (m_X9_completeOn (mN mo) x1 x2, mR' mo (0 : Int32))
theorem hd_X9_complete : yX9_complete.cls = RX9 ∧ yX9_complete.cls ≠ "java/lang/invoke/MethodHandle" ∧ yX9_complete.cls ≠ "java/lang/invoke/VarHandle" ∧ (parseMethodDescriptor yX9_complete.desc).map (fun d => d.parameters.length) = some 2 := by decide +kernel
set_option maxHeartbeats 8000000 in
set_option maxRecDepth 20000 in
theorem c_X9_complete (l : Launch) (D : va_G) (cy : Nat → ClassId) (a0 a1 a2 a3 a4 a5 a6 : Nat) (mo : MoT) (x1 : Int32) (x2 : Int32) (hM : rOK (mN mo)) : MU l D cy yX9_complete wsX9_complete ({ frames := 3, cells := 0, slots := 0, locals := 71 } : Room) (wMo cy a0 a1 a2 a3 a4 a5 a6 mo) (wMo cy a0 a1 a2 a3 a4 a5 a6 (m_X9_complete mo x1 x2).2) [.ref a0, .int x1, .int x2] (m_X9_complete mo x1 x2).1 := by
  refine MU.body (by decide) rfl (Nat.le_of_ble_eq_true rfl) ?_
  intro p e s m below meth c hx hb hml hr hts hown hlocks hP hG ls hl A hD hA hS
  have hl : lv_has ls 3 [(0, .ref a0), (1, .int x1), (2, .int x2)] := hl
  have hCF : CallFix p m c cX9_complete 3 s ([.ref a0, .int x1, .int x2] : List Value).toArray wsX9_complete RX9 := ⟨hx, hb, hml, hown, hts⟩
  have in_X9 : ∀ w ∈ u_ws RX9 TX9 11, w ∈ wsX9_complete := fun _ h => List.mem_cons_of_mem _ (List.mem_append_right _ h)
  have k_0 := hts (Cond.fieldLink RX9 13 "SparePoolModel" "now" "[I") (List.mem_of_getElem? (i := 1) rfl)
  have hP : va_P D vwCl (wMo cy a0 a1 a2 a3 a4 a5 a6 mo) s.heap := hP
  refine lv_aload_n hx hb dX9_complete_0 rfl (lv_at hl 0 rfl) ?_
  refine lv_iload_n hx hb dX9_complete_1 rfl (lv_at hl 1 rfl) ?_
  refine roS (wc := ([] : va_W)) (As := [.int x1]) (rest := [.ref a0]) (c_X9_isHolder l D cy x1) hCF gX9_complete_X9_isHolder rfl hd_X9_isHolder ⟨rfl, rfl, Nat.le_of_ble_eq_true rfl, Nat.le_of_ble_eq_true rfl⟩ hG va_P_nil rfl hl.1 rfl (Nat.le_of_ble_eq_true rfl) dX9_complete_2 ⟨Nat.le_refl _, Nat.le_refl _⟩ ?_
  refine lv_if_eq (tgt := 19) hx hb dX9_complete_5 (by decide) (fun c_1 => ?_) (fun c_1 => ?_)
  · skip
    refine lv_iconst (v := (1 : Int32)) hx hb dX9_complete_19 (by decide) ?_
    refine muV (A0 := A) (wc := (wMo cy a0 a1 a2 a3 a4 a5 a6 mo)) (As := [.int (1 : Int32)]) (rest := []) (c_X9_refused l D cy a0 a1 a2 a3 a4 a5 a6 mo (1 : Int32)) hCF gX9_complete_X9_refused rfl hd_X9_refused ⟨rfl, rfl, Nat.le_of_ble_eq_true rfl, Nat.le_of_ble_eq_true rfl⟩ hG hP hD hS hA [0, 1, 2, 3, 4, 5, 6] rfl c_Mo_Mo h_Mo (ci := 7) rfl rfl g_Mo_0 rfl hl.1 rfl (Nat.le_of_ble_eq_true rfl) dX9_complete_20 ⟨Nat.le_refl _, Nat.le_refl _⟩ (fun H locs hP hD hS => ?_)
    have hP : va_P D vwCl (wMo cy a0 a1 a2 a3 a4 a5 a6 (mR' mo (1 : Int32))) H := va_P_eq hP r_Mo_Mo
    have hD : va_D A (wMo cy a0 a1 a2 a3 a4 a5 a6 (mR' mo (1 : Int32))) := va_D_eq hD r_Mo_Mo
    refine lv_if_eq (tgt := 28) hx hb dX9_complete_23 (by decide) (fun c => absurd c (rf_lit1 _)) (fun _ => ?_)
    refine lv_iconst (v := (0 : Int32)) hx hb dX9_complete_26 (by decide) ?_
    exact mu_iret hx hb hr hlocks hP hS dX9_complete_27 (by rw [m_X9_complete, if_pos c_1]) (by rw [m_X9_complete, if_pos c_1])
  · skip
    refine lv_iload_n hx hb dX9_complete_8 rfl (lv_at hl 2 rfl) ?_
    refine roS (wc := ([] : va_W)) (As := [.int x2]) (rest := [.ref a0]) (c_X9_isKind l D cy x2) hCF gX9_complete_X9_isKind rfl hd_X9_isKind ⟨rfl, rfl, Nat.le_of_ble_eq_true rfl, Nat.le_of_ble_eq_true rfl⟩ hG va_P_nil rfl hl.1 rfl (Nat.le_of_ble_eq_true rfl) dX9_complete_9 ⟨Nat.le_refl _, Nat.le_refl _⟩ ?_
    refine lv_if_eq (tgt := 19) hx hb dX9_complete_12 (by decide) (fun c_2 => ?_) (fun c_2 => ?_)
    · skip
      refine lv_iconst (v := (1 : Int32)) hx hb dX9_complete_19 (by decide) ?_
      refine muV (A0 := A) (wc := (wMo cy a0 a1 a2 a3 a4 a5 a6 mo)) (As := [.int (1 : Int32)]) (rest := []) (c_X9_refused l D cy a0 a1 a2 a3 a4 a5 a6 mo (1 : Int32)) hCF gX9_complete_X9_refused rfl hd_X9_refused ⟨rfl, rfl, Nat.le_of_ble_eq_true rfl, Nat.le_of_ble_eq_true rfl⟩ hG hP hD hS hA [0, 1, 2, 3, 4, 5, 6] rfl c_Mo_Mo h_Mo (ci := 7) rfl rfl g_Mo_0 rfl hl.1 rfl (Nat.le_of_ble_eq_true rfl) dX9_complete_20 ⟨Nat.le_refl _, Nat.le_refl _⟩ (fun H locs hP hD hS => ?_)
      have hP : va_P D vwCl (wMo cy a0 a1 a2 a3 a4 a5 a6 (mR' mo (1 : Int32))) H := va_P_eq hP r_Mo_Mo
      have hD : va_D A (wMo cy a0 a1 a2 a3 a4 a5 a6 (mR' mo (1 : Int32))) := va_D_eq hD r_Mo_Mo
      refine lv_if_eq (tgt := 28) hx hb dX9_complete_23 (by decide) (fun c => absurd c (rf_lit1 _)) (fun _ => ?_)
      refine lv_iconst (v := (0 : Int32)) hx hb dX9_complete_26 (by decide) ?_
      exact mu_iret hx hb hr hlocks hP hS dX9_complete_27 (by rw [m_X9_complete, if_neg c_1, if_pos c_2]) (by rw [m_X9_complete, if_neg c_1, if_pos c_2])
    · skip
      refine lv_iconst (v := (0 : Int32)) hx hb dX9_complete_15 (by decide) ?_
      refine lv_goto (tgt := 20) hx hb dX9_complete_16 (by decide) ?_
      refine muV (A0 := A) (wc := (wMo cy a0 a1 a2 a3 a4 a5 a6 mo)) (As := [.int (0 : Int32)]) (rest := []) (c_X9_refused l D cy a0 a1 a2 a3 a4 a5 a6 mo (0 : Int32)) hCF gX9_complete_X9_refused rfl hd_X9_refused ⟨rfl, rfl, Nat.le_of_ble_eq_true rfl, Nat.le_of_ble_eq_true rfl⟩ hG hP hD hS hA [0, 1, 2, 3, 4, 5, 6] rfl c_Mo_Mo h_Mo (ci := 7) rfl rfl g_Mo_0 rfl hl.1 rfl (Nat.le_of_ble_eq_true rfl) dX9_complete_20 ⟨Nat.le_refl _, Nat.le_refl _⟩ (fun H locs hP hD hS => ?_)
      have hP : va_P D vwCl (wMo cy a0 a1 a2 a3 a4 a5 a6 (mR' mo (0 : Int32))) H := va_P_eq hP r_Mo_Mo
      have hD : va_D A (wMo cy a0 a1 a2 a3 a4 a5 a6 (mR' mo (0 : Int32))) := va_D_eq hD r_Mo_Mo
      refine lv_if_eq (tgt := 28) hx hb dX9_complete_23 (by decide) (fun _ => ?_) (fun c => absurd (rf_lit0 _) c)
      refine lv_aload_n hx hb dX9_complete_28 rfl (lv_at hl 0 rfl) ?_
      refine va_get (D := D) (ci := 7) (v := .ref a2) (C := RX9) (T := TX9) (N := 11) hx hb hts in_X9 hown hG.1 hP 0 g_Mo_0 rfl 3 (by decide) k_0 (fun _ h9 => h9) rfl dX9_complete_29 ?_
      refine lv_iload_n hx hb dX9_complete_32 rfl (lv_at hl 1 rfl) ?_
      refine lv_iload_n hx hb dX9_complete_33 rfl (lv_at hl 2 rfl) ?_
      refine roS (wc := (wAr cy a2 (mN mo))) (As := [.ref a2, .int x1, .int x2]) (rest := []) (c_X9_completeOn l D cy a2 (mN mo) x1 x2 hM) hCF gX9_complete_X9_completeOn rfl hd_X9_completeOn ⟨rfl, rfl, Nat.le_of_ble_eq_true rfl, Nat.le_of_ble_eq_true rfl⟩ hG (hP.sub (ws' := (wAr cy a2 (mN mo))) [2] u_Mo_Ar2) rfl hl.1 rfl (Nat.le_of_ble_eq_true rfl) dX9_complete_34 ⟨Nat.le_refl _, Nat.le_refl _⟩ ?_
      exact mu_iret hx hb hr hlocks hP hS dX9_complete_37 (by rw [m_X9_complete, if_neg c_1, if_neg c_2]) (by rw [m_X9_complete, if_neg c_1, if_neg c_2])
def m_X9_takings_L53 : Nat → MoT → Int32 → Int32 → Int32 → Int32 → Int32 → Int32 → Int32 × Int32 × Int32
  | 0, _, _, _, _, _, _, _ => (0, 0, 0)
  | nF + 1, mo, x1, x2, la, le, n, u => if ((mN mo) (1 : Int32).toNatClampNeg) ≤ u then (le, (n, u)) else if le ≤ (0 : Int32) then m_X9_takings_L53 nF mo x1 x2 la le n (u + (1 : Int32)) else if (m_X9_isAt (mN mo) u x1 x2) = (0 : Int32) then m_X9_takings_L53 nF mo x1 x2 la le n (u + (1 : Int32)) else if (m_X9_missing (mN mo) u) = la then m_X9_takings_L53 nF mo x1 x2 la (le + (-1 : Int32)) (n + la) (u + (1 : Int32)) else m_X9_takings_L53 nF mo x1 x2 la le n (u + (1 : Int32))
def m_X9_takings_L44 : Nat → MoT → Int32 → Int32 → Int32 → Int32 → Int32 → Int32 × MoT
  | 0, mo, _, _, _, _, _ => (0, mo)
  | nF + 1, mo, x1, x2, le, n, la => if (3 : Int32) < la then (n, mR' mo (0 : Int32)) else m_X9_takings_L44 nF mo x1 x2 (m_X9_takings_L53 100 mo x1 x2 la le n (0 : Int32)).1 (m_X9_takings_L53 100 mo x1 x2 la le n (0 : Int32)).2.1 (la + (1 : Int32))
def m_X9_takings (mo : MoT) (x1 : Int32) (x2 : Int32) : Int32 × MoT := if (m_X9_isHolder x1) = (0 : Int32) then ((0 : Int32), mR' mo (1 : Int32)) else if (m_X9_isKind x2) = (0 : Int32) then ((0 : Int32), mR' mo (1 : Int32)) else m_X9_takings_L44 100 mo x1 x2 (m_X9_completeOn (mN mo) x1 x2) (0 : Int32) (0 : Int32)
theorem hd_X9_takings : yX9_takings.cls = RX9 ∧ yX9_takings.cls ≠ "java/lang/invoke/MethodHandle" ∧ yX9_takings.cls ≠ "java/lang/invoke/VarHandle" ∧ (parseMethodDescriptor yX9_takings.desc).map (fun d => d.parameters.length) = some 2 := by decide +kernel
set_option maxHeartbeats 8000000 in
set_option maxRecDepth 20000 in
theorem c_X9_takings (l : Launch) (D : va_G) (cy : Nat → ClassId) (a0 a1 a2 a3 a4 a5 a6 : Nat) (mo : MoT) (x1 : Int32) (x2 : Int32) (hM : rOK (mN mo)) : MU l D cy yX9_takings wsX9_takings ({ frames := 3, cells := 0, slots := 0, locals := 71 } : Room) (wMo cy a0 a1 a2 a3 a4 a5 a6 mo) (wMo cy a0 a1 a2 a3 a4 a5 a6 (m_X9_takings mo x1 x2).2) [.ref a0, .int x1, .int x2] (m_X9_takings mo x1 x2).1 := by
  refine MU.body (by decide) rfl (Nat.le_of_ble_eq_true rfl) ?_
  intro p e s m below meth c hx hb hml hr hts hown hlocks hP hG ls hl A hD hA hS
  have hl : lv_has ls 7 [(0, .ref a0), (1, .int x1), (2, .int x2)] := hl
  have hCF : CallFix p m c cX9_takings 7 s ([.ref a0, .int x1, .int x2] : List Value).toArray wsX9_takings RX9 := ⟨hx, hb, hml, hown, hts⟩
  have in_X9 : ∀ w ∈ u_ws RX9 TX9 11, w ∈ wsX9_takings := fun _ h => List.mem_cons_of_mem _ (List.mem_append_right _ h)
  have k_0 := hts (Cond.fieldLink RX9 13 "SparePoolModel" "now" "[I") (List.mem_of_getElem? (i := 1) rfl)
  have hP : va_P D vwCl (wMo cy a0 a1 a2 a3 a4 a5 a6 mo) s.heap := hP
  have L_53 : ∀ (nF : Nat) (la : Int32) (le : Int32) (n : Int32) (u : Int32), 0 ≤ u.toInt → (((mN mo) (1 : Int32).toNatClampNeg).toInt - u.toInt).toNat < nF → ∀ (H : Heap) (locs : List Loc), va_P D vwCl (wMo cy a0 a1 a2 a3 a4 a5 a6 (mR' mo (0 : Int32))) H → va_D A (wMo cy a0 a1 a2 a3 a4 a5 a6 (mR' mo (0 : Int32))) → va_S A s.heap H locs → (∀ ls : Array Slot, lv_has ls 7 [(0, .ref a0), (1, .int x1), (2, .int x2), (3, .int (m_X9_takings_L53 nF mo x1 x2 la le n u).1), (4, .int (m_X9_takings_L53 nF mo x1 x2 la le n u).2.1), (5, .int la), (6, .int (m_X9_takings_L53 nF mo x1 x2 la le n u).2.2)] → W p l e ({ frames := 3, cells := 0, slots := 0, locals := 71 } : Room) s m ([.ref a0, .int x1, .int x2] : List Value).toArray below meth c H locs 0 0 (MQ below (va_Qi (fun v_ (_ : Unit) => v_ = (m_X9_takings mo x1 x2).1) (fun _ t => va_P D vwCl (wMo cy a0 a1 a2 a3 a4 a5 a6 (m_X9_takings mo x1 x2).2) t.heap) A) ([.ref a0, .int x1, .int x2] : List Value).toArray s 0 0 A) (F0 m 112 ls [])) → ∀ ls : Array Slot, lv_has ls 7 [(0, .ref a0), (1, .int x1), (2, .int x2), (3, .int le), (4, .int n), (5, .int la), (6, .int u)] → W p l e ({ frames := 3, cells := 0, slots := 0, locals := 71 } : Room) s m ([.ref a0, .int x1, .int x2] : List Value).toArray below meth c H locs 0 0 (MQ below (va_Qi (fun v_ (_ : Unit) => v_ = (m_X9_takings mo x1 x2).1) (fun _ t => va_P D vwCl (wMo cy a0 a1 a2 a3 a4 a5 a6 (m_X9_takings mo x1 x2).2) t.heap) A) ([.ref a0, .int x1, .int x2] : List Value).toArray s 0 0 A) (F0 m 53 ls []) := by
    intro nF la
    induction nF with
    | zero => intro le n u h0 hm; exact absurd hm (Nat.not_lt_zero _)
    | succ nF ih =>
      intro le n u h0 hm H locs hP hD hS K ls hl
      refine lv_iload hx hb dX9_takings_53 (lv_at hl 6 rfl) ?_
      refine lv_aload_n hx hb dX9_takings_55 rfl (lv_at hl 0 rfl) ?_
      refine va_get (D := D) (ci := 7) (v := .ref a2) (C := RX9) (T := TX9) (N := 11) hx hb hts in_X9 hown hG.1 hP 0 g_Mo_0 rfl 3 (by decide) k_0 (fun _ h9 => h9) rfl dX9_takings_56 ?_
      refine lv_iconst (v := (1 : Int32)) hx hb dX9_takings_59 (by decide) ?_
      refine va_iald hx hb hG.1 hP 2 0 (n := 383) (f := (mN mo)) g_Mo_2 rfl (bd_of (by decide) (by decide)) dX9_takings_60 ?_
      refine lv_icmp_ge (tgt := 112) hx hb dX9_takings_61 (by decide) (fun c_1 => ?_) (fun c_1 => ?_)
      · skip
        rw [m_X9_takings_L53, if_pos c_1] at K
        exact K ls (lv_sub hl [0, 1, 2, 3, 4, 5, 6] rfl)
      · skip
        refine lv_iload_n hx hb dX9_takings_64 rfl (lv_at hl 3 rfl) ?_
        refine lv_if_le (tgt := 106) hx hb dX9_takings_65 (by decide) (fun c_2 => ?_) (fun c_2 => ?_)
        · skip
          refine lv_iinc (v := (u + (1 : Int32))) (lv' := [(6, .int (u + (1 : Int32))), (0, .ref a0), (1, .int x1), (2, .int x2), (3, .int le), (4, .int n), (5, .int la)]) hx hb dX9_takings_106 hl (k := 6) rfl rfl (by decide) rfl (fun ls hl => ?_)
          refine lv_goto (tgt := 53) hx hb dX9_takings_109 (by decide) ?_
          refine ih le n (u + (1 : Int32)) (lp_up h0 c_1) (lp_dec h0 c_1 hm) H locs hP hD hS (by rw [m_X9_takings_L53, if_neg c_1, if_pos c_2] at K; exact K) ls (lv_sub hl [1, 2, 3, 4, 5, 6, 0] rfl)
        · skip
          refine lv_aload_n hx hb dX9_takings_68 rfl (lv_at hl 0 rfl) ?_
          refine va_get (D := D) (ci := 7) (v := .ref a2) (C := RX9) (T := TX9) (N := 11) hx hb hts in_X9 hown hG.1 hP 0 g_Mo_0 rfl 3 (by decide) k_0 (fun _ h9 => h9) rfl dX9_takings_69 ?_
          refine lv_iload hx hb dX9_takings_72 (lv_at hl 6 rfl) ?_
          refine lv_iload_n hx hb dX9_takings_74 rfl (lv_at hl 1 rfl) ?_
          refine lv_iload_n hx hb dX9_takings_75 rfl (lv_at hl 2 rfl) ?_
          refine roS (wc := (wAr cy a2 (mN mo))) (As := [.ref a2, .int u, .int x1, .int x2]) (rest := []) (c_X9_isAt l D cy a2 (mN mo) u x1 x2 (iv_loop (M := 16) (h := 15) h0 c_1 ((rk_many hM).2) (by decide))) hCF gX9_takings_X9_isAt rfl hd_X9_isAt ⟨rfl, rfl, Nat.le_of_ble_eq_true rfl, Nat.le_of_ble_eq_true rfl⟩ hG (hP.sub (ws' := (wAr cy a2 (mN mo))) [2] u_Mo_Ar2) rfl hl.1 rfl (Nat.le_of_ble_eq_true rfl) dX9_takings_76 ⟨Nat.le_refl _, Nat.le_refl _⟩ ?_
          refine lv_if_eq (tgt := 106) hx hb dX9_takings_79 (by decide) (fun c_3 => ?_) (fun c_3 => ?_)
          · skip
            refine lv_iinc (v := (u + (1 : Int32))) (lv' := [(6, .int (u + (1 : Int32))), (0, .ref a0), (1, .int x1), (2, .int x2), (3, .int le), (4, .int n), (5, .int la)]) hx hb dX9_takings_106 hl (k := 6) rfl rfl (by decide) rfl (fun ls hl => ?_)
            refine lv_goto (tgt := 53) hx hb dX9_takings_109 (by decide) ?_
            refine ih le n (u + (1 : Int32)) (lp_up h0 c_1) (lp_dec h0 c_1 hm) H locs hP hD hS (by rw [m_X9_takings_L53, if_neg c_1, if_neg c_2, if_pos c_3] at K; exact K) ls (lv_sub hl [1, 2, 3, 4, 5, 6, 0] rfl)
          · skip
            refine lv_aload_n hx hb dX9_takings_82 rfl (lv_at hl 0 rfl) ?_
            refine va_get (D := D) (ci := 7) (v := .ref a2) (C := RX9) (T := TX9) (N := 11) hx hb hts in_X9 hown hG.1 hP 0 g_Mo_0 rfl 3 (by decide) k_0 (fun _ h9 => h9) rfl dX9_takings_83 ?_
            refine lv_iload hx hb dX9_takings_86 (lv_at hl 6 rfl) ?_
            refine roS (wc := (wAr cy a2 (mN mo))) (As := [.ref a2, .int u]) (rest := []) (c_X9_missing l D cy a2 (mN mo) u (iv_loop (M := 16) (h := 15) h0 c_1 ((rk_many hM).2) (by decide))) hCF gX9_takings_X9_missing rfl hd_X9_missing ⟨rfl, rfl, Nat.le_of_ble_eq_true rfl, Nat.le_of_ble_eq_true rfl⟩ hG (hP.sub (ws' := (wAr cy a2 (mN mo))) [2] u_Mo_Ar2) rfl hl.1 rfl (Nat.le_of_ble_eq_true rfl) dX9_takings_88 ⟨Nat.le_refl _, Nat.le_refl _⟩ ?_
            refine lv_iload hx hb dX9_takings_91 (lv_at hl 5 rfl) ?_
            refine lv_icmp_ne (tgt := 106) hx hb dX9_takings_93 (by decide) (fun c_4 => ?_) (fun c_4 => ?_)
            · skip
              refine lv_iinc (v := (u + (1 : Int32))) (lv' := [(6, .int (u + (1 : Int32))), (0, .ref a0), (1, .int x1), (2, .int x2), (3, .int le), (4, .int n), (5, .int la)]) hx hb dX9_takings_106 hl (k := 6) rfl rfl (by decide) rfl (fun ls hl => ?_)
              refine lv_goto (tgt := 53) hx hb dX9_takings_109 (by decide) ?_
              refine ih le n (u + (1 : Int32)) (lp_up h0 c_1) (lp_dec h0 c_1 hm) H locs hP hD hS (by rw [m_X9_takings_L53, if_neg c_1, if_neg c_2, if_neg c_3, if_neg c_4] at K; exact K) ls (lv_sub hl [1, 2, 3, 4, 5, 6, 0] rfl)
            · skip
              refine lv_iload hx hb dX9_takings_96 (lv_at hl 4 rfl) ?_
              refine lv_iload hx hb dX9_takings_98 (lv_at hl 5 rfl) ?_
              refine lv_iadd hx hb dX9_takings_100 ?_
              refine lv_istore (lv' := [(4, .int (n + la)), (0, .ref a0), (1, .int x1), (2, .int x2), (3, .int le), (5, .int la), (6, .int u)]) hx hb dX9_takings_101 hl (by decide) rfl (fun ls hl => ?_)
              refine lv_iinc (v := (le + (-1 : Int32))) (lv' := [(3, .int (le + (-1 : Int32))), (4, .int (n + la)), (0, .ref a0), (1, .int x1), (2, .int x2), (5, .int la), (6, .int u)]) hx hb dX9_takings_103 hl (k := 4) rfl rfl (by decide) rfl (fun ls hl => ?_)
              refine lv_iinc (v := (u + (1 : Int32))) (lv' := [(6, .int (u + (1 : Int32))), (3, .int (le + (-1 : Int32))), (4, .int (n + la)), (0, .ref a0), (1, .int x1), (2, .int x2), (5, .int la)]) hx hb dX9_takings_106 hl (k := 6) rfl rfl (by decide) rfl (fun ls hl => ?_)
              refine lv_goto (tgt := 53) hx hb dX9_takings_109 (by decide) ?_
              refine ih (le + (-1 : Int32)) (n + la) (u + (1 : Int32)) (lp_up h0 c_1) (lp_dec h0 c_1 hm) H locs hP hD hS (by rw [m_X9_takings_L53, if_neg c_1, if_neg c_2, if_neg c_3, if_pos c_4] at K; exact K) ls (lv_sub hl [3, 4, 5, 1, 2, 6, 0] rfl)
  have L_44 : ∀ (nF : Nat) (le : Int32) (n : Int32) (la : Int32), 0 ≤ la.toInt → ((4 : Int32).toInt - la.toInt).toNat < nF → m_X9_takings_L44 nF mo x1 x2 le n la = (m_X9_takings mo x1 x2) → ∀ (H : Heap) (locs : List Loc), va_P D vwCl (wMo cy a0 a1 a2 a3 a4 a5 a6 (mR' mo (0 : Int32))) H → va_D A (wMo cy a0 a1 a2 a3 a4 a5 a6 (mR' mo (0 : Int32))) → va_S A s.heap H locs → ∀ ls : Array Slot, lv_has ls 7 [(0, .ref a0), (1, .int x1), (2, .int x2), (3, .int le), (4, .int n), (5, .int la)] → W p l e ({ frames := 3, cells := 0, slots := 0, locals := 71 } : Room) s m ([.ref a0, .int x1, .int x2] : List Value).toArray below meth c H locs 0 0 (MQ below (va_Qi (fun v_ (_ : Unit) => v_ = (m_X9_takings mo x1 x2).1) (fun _ t => va_P D vwCl (wMo cy a0 a1 a2 a3 a4 a5 a6 (m_X9_takings mo x1 x2).2) t.heap) A) ([.ref a0, .int x1, .int x2] : List Value).toArray s 0 0 A) (F0 m 44 ls []) := by
    intro nF
    induction nF with
    | zero => intro le n la h0 hm; exact absurd hm (Nat.not_lt_zero _)
    | succ nF ih =>
      intro le n la h0 hm hQ H locs hP hD hS ls hl
      refine lv_iload hx hb dX9_takings_44 (lv_at hl 5 rfl) ?_
      refine lv_iconst (v := (3 : Int32)) hx hb dX9_takings_46 (by decide) ?_
      refine lv_icmp_gt (tgt := 118) hx hb dX9_takings_47 (by decide) (fun c_5 => ?_) (fun c_5 => ?_)
      · skip
        refine lv_iload hx hb dX9_takings_118 (lv_at hl 4 rfl) ?_
        exact mu_iret hx hb hr hlocks hP hS dX9_takings_120 (by rw [← hQ, m_X9_takings_L44, if_pos c_5]) (by rw [← hQ, m_X9_takings_L44, if_pos c_5])
      · skip
        refine lv_iconst (v := (0 : Int32)) hx hb dX9_takings_50 (by decide) ?_
        refine lv_istore (lv' := [(6, .int (0 : Int32)), (0, .ref a0), (1, .int x1), (2, .int x2), (3, .int le), (4, .int n), (5, .int la)]) hx hb dX9_takings_51 hl (by decide) rfl (fun ls hl => ?_)
        refine L_53 100 la le n (0 : Int32) (by decide) (lp_init (M := 16) (rk_many hM).2 (by decide)) H locs hP hD hS (fun ls hl => ?_) ls (lv_sub hl [1, 2, 3, 4, 5, 6, 0] rfl)
        have hl : lv_has ls 7 [(0, .ref a0), (1, .int x1), (2, .int x2), (3, .int (m_X9_takings_L53 100 mo x1 x2 la le n (0 : Int32)).1), (4, .int (m_X9_takings_L53 100 mo x1 x2 la le n (0 : Int32)).2.1), (5, .int la), (6, .int (m_X9_takings_L53 100 mo x1 x2 la le n (0 : Int32)).2.2)] := hl
        refine lv_iinc (v := (la + (1 : Int32))) (lv' := [(5, .int (la + (1 : Int32))), (0, .ref a0), (1, .int x1), (2, .int x2), (3, .int (m_X9_takings_L53 100 mo x1 x2 la le n (0 : Int32)).1), (4, .int (m_X9_takings_L53 100 mo x1 x2 la le n (0 : Int32)).2.1), (6, .int (m_X9_takings_L53 100 mo x1 x2 la le n (0 : Int32)).2.2)]) hx hb dX9_takings_112 hl (k := 5) rfl rfl (by decide) rfl (fun ls hl => ?_)
        refine lv_goto (tgt := 44) hx hb dX9_takings_115 (by decide) ?_
        exact ih  (m_X9_takings_L53 100 mo x1 x2 la le n (0 : Int32)).1 (m_X9_takings_L53 100 mo x1 x2 la le n (0 : Int32)).2.1 (la + (1 : Int32)) (lp_up h0 (ft_le c_5)) (lp_dec h0 (ft_le c_5) hm) (by rw [← hQ, m_X9_takings_L44, if_neg c_5]) H locs hP hD hS ls (lv_sub hl [1, 2, 3, 4, 5, 0] rfl)
  refine lv_aload_n hx hb dX9_takings_0 rfl (lv_at hl 0 rfl) ?_
  refine lv_iload_n hx hb dX9_takings_1 rfl (lv_at hl 1 rfl) ?_
  refine roS (wc := ([] : va_W)) (As := [.int x1]) (rest := [.ref a0]) (c_X9_isHolder l D cy x1) hCF gX9_takings_X9_isHolder rfl hd_X9_isHolder ⟨rfl, rfl, Nat.le_of_ble_eq_true rfl, Nat.le_of_ble_eq_true rfl⟩ hG va_P_nil rfl hl.1 rfl (Nat.le_of_ble_eq_true rfl) dX9_takings_2 ⟨Nat.le_refl _, Nat.le_refl _⟩ ?_
  refine lv_if_eq (tgt := 19) hx hb dX9_takings_5 (by decide) (fun c_6 => ?_) (fun c_6 => ?_)
  · skip
    refine lv_iconst (v := (1 : Int32)) hx hb dX9_takings_19 (by decide) ?_
    refine muV (A0 := A) (wc := (wMo cy a0 a1 a2 a3 a4 a5 a6 mo)) (As := [.int (1 : Int32)]) (rest := []) (c_X9_refused l D cy a0 a1 a2 a3 a4 a5 a6 mo (1 : Int32)) hCF gX9_takings_X9_refused rfl hd_X9_refused ⟨rfl, rfl, Nat.le_of_ble_eq_true rfl, Nat.le_of_ble_eq_true rfl⟩ hG hP hD hS hA [0, 1, 2, 3, 4, 5, 6] rfl c_Mo_Mo h_Mo (ci := 7) rfl rfl g_Mo_0 rfl hl.1 rfl (Nat.le_of_ble_eq_true rfl) dX9_takings_20 ⟨Nat.le_refl _, Nat.le_refl _⟩ (fun H locs hP hD hS => ?_)
    have hP : va_P D vwCl (wMo cy a0 a1 a2 a3 a4 a5 a6 (mR' mo (1 : Int32))) H := va_P_eq hP r_Mo_Mo
    have hD : va_D A (wMo cy a0 a1 a2 a3 a4 a5 a6 (mR' mo (1 : Int32))) := va_D_eq hD r_Mo_Mo
    refine lv_if_eq (tgt := 28) hx hb dX9_takings_23 (by decide) (fun c => absurd c (rf_lit1 _)) (fun _ => ?_)
    refine lv_iconst (v := (0 : Int32)) hx hb dX9_takings_26 (by decide) ?_
    exact mu_iret hx hb hr hlocks hP hS dX9_takings_27 (by rw [m_X9_takings, if_pos c_6]) (by rw [m_X9_takings, if_pos c_6])
  · skip
    refine lv_iload_n hx hb dX9_takings_8 rfl (lv_at hl 2 rfl) ?_
    refine roS (wc := ([] : va_W)) (As := [.int x2]) (rest := [.ref a0]) (c_X9_isKind l D cy x2) hCF gX9_takings_X9_isKind rfl hd_X9_isKind ⟨rfl, rfl, Nat.le_of_ble_eq_true rfl, Nat.le_of_ble_eq_true rfl⟩ hG va_P_nil rfl hl.1 rfl (Nat.le_of_ble_eq_true rfl) dX9_takings_9 ⟨Nat.le_refl _, Nat.le_refl _⟩ ?_
    refine lv_if_eq (tgt := 19) hx hb dX9_takings_12 (by decide) (fun c_7 => ?_) (fun c_7 => ?_)
    · skip
      refine lv_iconst (v := (1 : Int32)) hx hb dX9_takings_19 (by decide) ?_
      refine muV (A0 := A) (wc := (wMo cy a0 a1 a2 a3 a4 a5 a6 mo)) (As := [.int (1 : Int32)]) (rest := []) (c_X9_refused l D cy a0 a1 a2 a3 a4 a5 a6 mo (1 : Int32)) hCF gX9_takings_X9_refused rfl hd_X9_refused ⟨rfl, rfl, Nat.le_of_ble_eq_true rfl, Nat.le_of_ble_eq_true rfl⟩ hG hP hD hS hA [0, 1, 2, 3, 4, 5, 6] rfl c_Mo_Mo h_Mo (ci := 7) rfl rfl g_Mo_0 rfl hl.1 rfl (Nat.le_of_ble_eq_true rfl) dX9_takings_20 ⟨Nat.le_refl _, Nat.le_refl _⟩ (fun H locs hP hD hS => ?_)
      have hP : va_P D vwCl (wMo cy a0 a1 a2 a3 a4 a5 a6 (mR' mo (1 : Int32))) H := va_P_eq hP r_Mo_Mo
      have hD : va_D A (wMo cy a0 a1 a2 a3 a4 a5 a6 (mR' mo (1 : Int32))) := va_D_eq hD r_Mo_Mo
      refine lv_if_eq (tgt := 28) hx hb dX9_takings_23 (by decide) (fun c => absurd c (rf_lit1 _)) (fun _ => ?_)
      refine lv_iconst (v := (0 : Int32)) hx hb dX9_takings_26 (by decide) ?_
      exact mu_iret hx hb hr hlocks hP hS dX9_takings_27 (by rw [m_X9_takings, if_neg c_6, if_pos c_7]) (by rw [m_X9_takings, if_neg c_6, if_pos c_7])
    · skip
      refine lv_iconst (v := (0 : Int32)) hx hb dX9_takings_15 (by decide) ?_
      refine lv_goto (tgt := 20) hx hb dX9_takings_16 (by decide) ?_
      refine muV (A0 := A) (wc := (wMo cy a0 a1 a2 a3 a4 a5 a6 mo)) (As := [.int (0 : Int32)]) (rest := []) (c_X9_refused l D cy a0 a1 a2 a3 a4 a5 a6 mo (0 : Int32)) hCF gX9_takings_X9_refused rfl hd_X9_refused ⟨rfl, rfl, Nat.le_of_ble_eq_true rfl, Nat.le_of_ble_eq_true rfl⟩ hG hP hD hS hA [0, 1, 2, 3, 4, 5, 6] rfl c_Mo_Mo h_Mo (ci := 7) rfl rfl g_Mo_0 rfl hl.1 rfl (Nat.le_of_ble_eq_true rfl) dX9_takings_20 ⟨Nat.le_refl _, Nat.le_refl _⟩ (fun H locs hP hD hS => ?_)
      have hP : va_P D vwCl (wMo cy a0 a1 a2 a3 a4 a5 a6 (mR' mo (0 : Int32))) H := va_P_eq hP r_Mo_Mo
      have hD : va_D A (wMo cy a0 a1 a2 a3 a4 a5 a6 (mR' mo (0 : Int32))) := va_D_eq hD r_Mo_Mo
      refine lv_if_eq (tgt := 28) hx hb dX9_takings_23 (by decide) (fun _ => ?_) (fun c => absurd (rf_lit0 _) c)
      refine lv_aload_n hx hb dX9_takings_28 rfl (lv_at hl 0 rfl) ?_
      refine va_get (D := D) (ci := 7) (v := .ref a2) (C := RX9) (T := TX9) (N := 11) hx hb hts in_X9 hown hG.1 hP 0 g_Mo_0 rfl 3 (by decide) k_0 (fun _ h9 => h9) rfl dX9_takings_29 ?_
      refine lv_iload_n hx hb dX9_takings_32 rfl (lv_at hl 1 rfl) ?_
      refine lv_iload_n hx hb dX9_takings_33 rfl (lv_at hl 2 rfl) ?_
      refine roS (wc := (wAr cy a2 (mN mo))) (As := [.ref a2, .int x1, .int x2]) (rest := []) (c_X9_completeOn l D cy a2 (mN mo) x1 x2 hM) hCF gX9_takings_X9_completeOn rfl hd_X9_completeOn ⟨rfl, rfl, Nat.le_of_ble_eq_true rfl, Nat.le_of_ble_eq_true rfl⟩ hG (hP.sub (ws' := (wAr cy a2 (mN mo))) [2] u_Mo_Ar2) rfl hl.1 rfl (Nat.le_of_ble_eq_true rfl) dX9_takings_34 ⟨Nat.le_refl _, Nat.le_refl _⟩ ?_
      refine lv_istore_n (lv' := [(3, .int (m_X9_completeOn (mN mo) x1 x2)), (0, .ref a0), (1, .int x1), (2, .int x2)]) hx hb dX9_takings_37 rfl hl (by decide) rfl (fun ls hl => ?_)
      refine lv_iconst (v := (0 : Int32)) hx hb dX9_takings_38 (by decide) ?_
      refine lv_istore (lv' := [(4, .int (0 : Int32)), (3, .int (m_X9_completeOn (mN mo) x1 x2)), (0, .ref a0), (1, .int x1), (2, .int x2)]) hx hb dX9_takings_39 hl (by decide) rfl (fun ls hl => ?_)
      refine lv_iconst (v := (0 : Int32)) hx hb dX9_takings_41 (by decide) ?_
      refine lv_istore (lv' := [(5, .int (0 : Int32)), (4, .int (0 : Int32)), (3, .int (m_X9_completeOn (mN mo) x1 x2)), (0, .ref a0), (1, .int x1), (2, .int x2)]) hx hb dX9_takings_42 hl (by decide) rfl (fun ls hl => ?_)
      exact L_44 100 (m_X9_completeOn (mN mo) x1 x2) (0 : Int32) (0 : Int32) (by decide) (by decide) (by rw [m_X9_takings, if_neg c_6, if_neg c_7]) H locs hP hD hS ls (lv_sub hl [3, 4, 5, 2, 1, 0] rfl)
def m_X9_bill_L42 : Nat → MoT → Int32 → Int32 → Int32 → Int32 → Int32 × MoT
  | 0, mo, _, _, _, _ => (0, mo)
  | nF + 1, mo, x1, x2, su, u => if ((mN mo) (1 : Int32).toNatClampNeg) ≤ u then (su, mR' mo (0 : Int32)) else if (m_X9_of (mN mo) u (2 : Int32)) = x1 then if (m_X9_of (mN mo) u (1 : Int32)) = x1 then m_X9_bill_L42 nF mo x1 x2 ((su + (m_X9_lateOf (mN mo) u x2)) - (m_X9_lateOf (mN mo) u x2)) (u + (1 : Int32)) else m_X9_bill_L42 nF mo x1 x2 ((su + (m_X9_lateOf (mN mo) u x2)) - (0 : Int32)) (u + (1 : Int32)) else if (m_X9_of (mN mo) u (1 : Int32)) = x1 then m_X9_bill_L42 nF mo x1 x2 ((su + (0 : Int32)) - (m_X9_lateOf (mN mo) u x2)) (u + (1 : Int32)) else m_X9_bill_L42 nF mo x1 x2 ((su + (0 : Int32)) - (0 : Int32)) (u + (1 : Int32))
def m_X9_bill (mo : MoT) (x1 : Int32) (x2 : Int32) : Int32 × MoT := if (m_X9_isHolder x1) = (0 : Int32) then ((0 : Int32), mR' mo (1 : Int32)) else if (m_X9_in x2.toInt64 (0 : Int64) (99 : Int64)) = (0 : Int32) then ((0 : Int32), mR' mo (2 : Int32)) else m_X9_bill_L42 100 mo x1 x2 (0 : Int32) (0 : Int32)
theorem hd_X9_bill : yX9_bill.cls = RX9 ∧ yX9_bill.cls ≠ "java/lang/invoke/MethodHandle" ∧ yX9_bill.cls ≠ "java/lang/invoke/VarHandle" ∧ (parseMethodDescriptor yX9_bill.desc).map (fun d => d.parameters.length) = some 2 := by decide +kernel
set_option maxHeartbeats 8000000 in
set_option maxRecDepth 20000 in
theorem c_X9_bill (l : Launch) (D : va_G) (cy : Nat → ClassId) (a0 a1 a2 a3 a4 a5 a6 : Nat) (mo : MoT) (x1 : Int32) (x2 : Int32) (hM : rOK (mN mo)) : MU l D cy yX9_bill wsX9_bill ({ frames := 3, cells := 0, slots := 0, locals := 65 } : Room) (wMo cy a0 a1 a2 a3 a4 a5 a6 mo) (wMo cy a0 a1 a2 a3 a4 a5 a6 (m_X9_bill mo x1 x2).2) [.ref a0, .int x1, .int x2] (m_X9_bill mo x1 x2).1 := by
  refine MU.body (by decide) rfl (Nat.le_of_ble_eq_true rfl) ?_
  intro p e s m below meth c hx hb hml hr hts hown hlocks hP hG ls hl A hD hA hS
  have hl : lv_has ls 6 [(0, .ref a0), (1, .int x1), (2, .int x2)] := hl
  have hCF : CallFix p m c cX9_bill 6 s ([.ref a0, .int x1, .int x2] : List Value).toArray wsX9_bill RX9 := ⟨hx, hb, hml, hown, hts⟩
  have in_X9 : ∀ w ∈ u_ws RX9 TX9 11, w ∈ wsX9_bill := fun _ h => List.mem_cons_of_mem _ (List.mem_append_right _ h)
  have k_0 := hts (Cond.fieldLink RX9 13 "SparePoolModel" "now" "[I") (List.mem_of_getElem? (i := 2) rfl)
  have k_1 := hts (Cond.constantLong RX9 173 (99)) (List.mem_of_getElem? (i := 1) rfl)
  have hP : va_P D vwCl (wMo cy a0 a1 a2 a3 a4 a5 a6 mo) s.heap := hP
  have L_42 : ∀ (nF : Nat) (su : Int32) (u : Int32), 0 ≤ u.toInt → (((mN mo) (1 : Int32).toNatClampNeg).toInt - u.toInt).toNat < nF → m_X9_bill_L42 nF mo x1 x2 su u = (m_X9_bill mo x1 x2) → ∀ (H : Heap) (locs : List Loc), va_P D vwCl (wMo cy a0 a1 a2 a3 a4 a5 a6 (mR' mo (0 : Int32))) H → va_D A (wMo cy a0 a1 a2 a3 a4 a5 a6 (mR' mo (0 : Int32))) → va_S A s.heap H locs → ∀ ls : Array Slot, lv_has ls 6 [(0, .ref a0), (1, .int x1), (2, .int x2), (3, .int su), (4, .int u)] → W p l e ({ frames := 3, cells := 0, slots := 0, locals := 65 } : Room) s m ([.ref a0, .int x1, .int x2] : List Value).toArray below meth c H locs 0 0 (MQ below (va_Qi (fun v_ (_ : Unit) => v_ = (m_X9_bill mo x1 x2).1) (fun _ t => va_P D vwCl (wMo cy a0 a1 a2 a3 a4 a5 a6 (m_X9_bill mo x1 x2).2) t.heap) A) ([.ref a0, .int x1, .int x2] : List Value).toArray s 0 0 A) (F0 m 42 ls []) := by
    intro nF
    induction nF with
    | zero => intro su u h0 hm; exact absurd hm (Nat.not_lt_zero _)
    | succ nF ih =>
      intro su u h0 hm hQ H locs hP hD hS ls hl
      refine lv_iload hx hb dX9_bill_42 (lv_at hl 4 rfl) ?_
      refine lv_aload_n hx hb dX9_bill_44 rfl (lv_at hl 0 rfl) ?_
      refine va_get (D := D) (ci := 7) (v := .ref a2) (C := RX9) (T := TX9) (N := 11) hx hb hts in_X9 hown hG.1 hP 0 g_Mo_0 rfl 3 (by decide) k_0 (fun _ h9 => h9) rfl dX9_bill_45 ?_
      refine lv_iconst (v := (1 : Int32)) hx hb dX9_bill_48 (by decide) ?_
      refine va_iald hx hb hG.1 hP 2 0 (n := 383) (f := (mN mo)) g_Mo_2 rfl (bd_of (by decide) (by decide)) dX9_bill_49 ?_
      refine lv_icmp_ge (tgt := 117) hx hb dX9_bill_50 (by decide) (fun c_1 => ?_) (fun c_1 => ?_)
      · skip
        refine lv_iload_n hx hb dX9_bill_117 rfl (lv_at hl 3 rfl) ?_
        exact mu_iret hx hb hr hlocks hP hS dX9_bill_118 (by rw [← hQ, m_X9_bill_L42, if_pos c_1]) (by rw [← hQ, m_X9_bill_L42, if_pos c_1])
      · skip
        refine lv_aload_n hx hb dX9_bill_53 rfl (lv_at hl 0 rfl) ?_
        refine va_get (D := D) (ci := 7) (v := .ref a2) (C := RX9) (T := TX9) (N := 11) hx hb hts in_X9 hown hG.1 hP 0 g_Mo_0 rfl 3 (by decide) k_0 (fun _ h9 => h9) rfl dX9_bill_54 ?_
        refine lv_iload hx hb dX9_bill_57 (lv_at hl 4 rfl) ?_
        refine lv_iload_n hx hb dX9_bill_59 rfl (lv_at hl 2 rfl) ?_
        refine roS (wc := (wAr cy a2 (mN mo))) (As := [.ref a2, .int u, .int x2]) (rest := []) (c_X9_lateOf l D cy a2 (mN mo) u x2 (iv_loop (M := 16) (h := 15) h0 c_1 ((rk_many hM).2) (by decide))) hCF gX9_bill_X9_lateOf rfl hd_X9_lateOf ⟨rfl, rfl, Nat.le_of_ble_eq_true rfl, Nat.le_of_ble_eq_true rfl⟩ hG (hP.sub (ws' := (wAr cy a2 (mN mo))) [2] u_Mo_Ar2) rfl hl.1 rfl (Nat.le_of_ble_eq_true rfl) dX9_bill_60 ⟨Nat.le_refl _, Nat.le_refl _⟩ ?_
        refine lv_istore (lv' := [(5, .int (m_X9_lateOf (mN mo) u x2)), (0, .ref a0), (1, .int x1), (2, .int x2), (3, .int su), (4, .int u)]) hx hb dX9_bill_63 hl (by decide) rfl (fun ls hl => ?_)
        refine lv_iload_n hx hb dX9_bill_65 rfl (lv_at hl 4 rfl) ?_
        refine lv_aload_n hx hb dX9_bill_66 rfl (lv_at hl 1 rfl) ?_
        refine va_get (D := D) (ci := 7) (v := .ref a2) (C := RX9) (T := TX9) (N := 11) hx hb hts in_X9 hown hG.1 hP 0 g_Mo_0 rfl 3 (by decide) k_0 (fun _ h9 => h9) rfl dX9_bill_67 ?_
        refine lv_iload hx hb dX9_bill_70 (lv_at hl 5 rfl) ?_
        refine lv_iconst (v := (2 : Int32)) hx hb dX9_bill_72 (by decide) ?_
        refine roS (wc := (wAr cy a2 (mN mo))) (As := [.ref a2, .int u, .int (2 : Int32)]) (rest := [.int su]) (c_X9_of l D cy a2 (mN mo) u (2 : Int32) (iv_loop (M := 16) (h := 15) h0 c_1 ((rk_many hM).2) (by decide)) (iv_wide (l2 := 0) (h2 := 4) (iv_lit (v := 2) (by decide)) (by decide))) hCF gX9_bill_X9_of rfl hd_X9_of ⟨rfl, rfl, Nat.le_of_ble_eq_true rfl, Nat.le_of_ble_eq_true rfl⟩ hG (hP.sub (ws' := (wAr cy a2 (mN mo))) [2] u_Mo_Ar2) rfl hl.1 rfl (Nat.le_of_ble_eq_true rfl) dX9_bill_73 ⟨Nat.le_refl _, Nat.le_refl _⟩ ?_
        refine lv_iload_n hx hb dX9_bill_76 rfl (lv_at hl 2 rfl) ?_
        refine lv_icmp_ne (tgt := 85) hx hb dX9_bill_77 (by decide) (fun c_2 => ?_) (fun c_2 => ?_)
        · skip
          refine lv_iconst (v := (0 : Int32)) hx hb dX9_bill_85 (by decide) ?_
          refine lv_iadd hx hb dX9_bill_86 ?_
          refine lv_istore_n (lv' := [(3, .int (su + (0 : Int32))), (5, .int (m_X9_lateOf (mN mo) u x2)), (0, .ref a0), (1, .int x1), (2, .int x2), (4, .int u)]) hx hb dX9_bill_87 rfl hl (by decide) rfl (fun ls hl => ?_)
          refine lv_iload_n hx hb dX9_bill_88 rfl (lv_at hl 0 rfl) ?_
          refine lv_aload_n hx hb dX9_bill_89 rfl (lv_at hl 2 rfl) ?_
          refine va_get (D := D) (ci := 7) (v := .ref a2) (C := RX9) (T := TX9) (N := 11) hx hb hts in_X9 hown hG.1 hP 0 g_Mo_0 rfl 3 (by decide) k_0 (fun _ h9 => h9) rfl dX9_bill_90 ?_
          refine lv_iload hx hb dX9_bill_93 (lv_at hl 5 rfl) ?_
          refine lv_iconst (v := (1 : Int32)) hx hb dX9_bill_95 (by decide) ?_
          refine roS (wc := (wAr cy a2 (mN mo))) (As := [.ref a2, .int u, .int (1 : Int32)]) (rest := [.int (su + (0 : Int32))]) (c_X9_of l D cy a2 (mN mo) u (1 : Int32) (iv_loop (M := 16) (h := 15) h0 c_1 ((rk_many hM).2) (by decide)) (iv_wide (l2 := 0) (h2 := 4) (iv_lit (v := 1) (by decide)) (by decide))) hCF gX9_bill_X9_of rfl hd_X9_of ⟨rfl, rfl, Nat.le_of_ble_eq_true rfl, Nat.le_of_ble_eq_true rfl⟩ hG (hP.sub (ws' := (wAr cy a2 (mN mo))) [2] u_Mo_Ar2) rfl hl.1 rfl (Nat.le_of_ble_eq_true rfl) dX9_bill_96 ⟨Nat.le_refl _, Nat.le_refl _⟩ ?_
          refine lv_iload_n hx hb dX9_bill_99 rfl (lv_at hl 3 rfl) ?_
          refine lv_icmp_ne (tgt := 108) hx hb dX9_bill_100 (by decide) (fun c_3 => ?_) (fun c_3 => ?_)
          · skip
            refine lv_iconst (v := (0 : Int32)) hx hb dX9_bill_108 (by decide) ?_
            refine lv_isub hx hb dX9_bill_109 ?_
            refine lv_istore_n (lv' := [(3, .int ((su + (0 : Int32)) - (0 : Int32))), (5, .int (m_X9_lateOf (mN mo) u x2)), (0, .ref a0), (1, .int x1), (2, .int x2), (4, .int u)]) hx hb dX9_bill_110 rfl hl (by decide) rfl (fun ls hl => ?_)
            refine lv_iinc (v := (u + (1 : Int32))) (lv' := [(4, .int (u + (1 : Int32))), (3, .int ((su + (0 : Int32)) - (0 : Int32))), (5, .int (m_X9_lateOf (mN mo) u x2)), (0, .ref a0), (1, .int x1), (2, .int x2)]) hx hb dX9_bill_111 hl (k := 5) rfl rfl (by decide) rfl (fun ls hl => ?_)
            refine lv_goto (tgt := 42) hx hb dX9_bill_114 (by decide) ?_
            exact ih  ((su + (0 : Int32)) - (0 : Int32)) (u + (1 : Int32)) (lp_up h0 c_1) (lp_dec h0 c_1 hm) (by rw [← hQ, m_X9_bill_L42, if_neg c_1, if_neg c_2, if_neg c_3]) H locs hP hD hS ls (lv_sub hl [3, 4, 5, 1, 0] rfl)
          · skip
            refine lv_iload hx hb dX9_bill_103 (lv_at hl 1 rfl) ?_
            refine lv_goto (tgt := 109) hx hb dX9_bill_105 (by decide) ?_
            refine lv_isub hx hb dX9_bill_109 ?_
            refine lv_istore_n (lv' := [(3, .int ((su + (0 : Int32)) - (m_X9_lateOf (mN mo) u x2))), (5, .int (m_X9_lateOf (mN mo) u x2)), (0, .ref a0), (1, .int x1), (2, .int x2), (4, .int u)]) hx hb dX9_bill_110 rfl hl (by decide) rfl (fun ls hl => ?_)
            refine lv_iinc (v := (u + (1 : Int32))) (lv' := [(4, .int (u + (1 : Int32))), (3, .int ((su + (0 : Int32)) - (m_X9_lateOf (mN mo) u x2))), (5, .int (m_X9_lateOf (mN mo) u x2)), (0, .ref a0), (1, .int x1), (2, .int x2)]) hx hb dX9_bill_111 hl (k := 5) rfl rfl (by decide) rfl (fun ls hl => ?_)
            refine lv_goto (tgt := 42) hx hb dX9_bill_114 (by decide) ?_
            exact ih  ((su + (0 : Int32)) - (m_X9_lateOf (mN mo) u x2)) (u + (1 : Int32)) (lp_up h0 c_1) (lp_dec h0 c_1 hm) (by rw [← hQ, m_X9_bill_L42, if_neg c_1, if_neg c_2, if_pos c_3]) H locs hP hD hS ls (lv_sub hl [3, 4, 5, 1, 0] rfl)
        · skip
          refine lv_iload hx hb dX9_bill_80 (lv_at hl 0 rfl) ?_
          refine lv_goto (tgt := 86) hx hb dX9_bill_82 (by decide) ?_
          refine lv_iadd hx hb dX9_bill_86 ?_
          refine lv_istore_n (lv' := [(3, .int (su + (m_X9_lateOf (mN mo) u x2))), (5, .int (m_X9_lateOf (mN mo) u x2)), (0, .ref a0), (1, .int x1), (2, .int x2), (4, .int u)]) hx hb dX9_bill_87 rfl hl (by decide) rfl (fun ls hl => ?_)
          refine lv_iload_n hx hb dX9_bill_88 rfl (lv_at hl 0 rfl) ?_
          refine lv_aload_n hx hb dX9_bill_89 rfl (lv_at hl 2 rfl) ?_
          refine va_get (D := D) (ci := 7) (v := .ref a2) (C := RX9) (T := TX9) (N := 11) hx hb hts in_X9 hown hG.1 hP 0 g_Mo_0 rfl 3 (by decide) k_0 (fun _ h9 => h9) rfl dX9_bill_90 ?_
          refine lv_iload hx hb dX9_bill_93 (lv_at hl 5 rfl) ?_
          refine lv_iconst (v := (1 : Int32)) hx hb dX9_bill_95 (by decide) ?_
          refine roS (wc := (wAr cy a2 (mN mo))) (As := [.ref a2, .int u, .int (1 : Int32)]) (rest := [.int (su + (m_X9_lateOf (mN mo) u x2))]) (c_X9_of l D cy a2 (mN mo) u (1 : Int32) (iv_loop (M := 16) (h := 15) h0 c_1 ((rk_many hM).2) (by decide)) (iv_wide (l2 := 0) (h2 := 4) (iv_lit (v := 1) (by decide)) (by decide))) hCF gX9_bill_X9_of rfl hd_X9_of ⟨rfl, rfl, Nat.le_of_ble_eq_true rfl, Nat.le_of_ble_eq_true rfl⟩ hG (hP.sub (ws' := (wAr cy a2 (mN mo))) [2] u_Mo_Ar2) rfl hl.1 rfl (Nat.le_of_ble_eq_true rfl) dX9_bill_96 ⟨Nat.le_refl _, Nat.le_refl _⟩ ?_
          refine lv_iload_n hx hb dX9_bill_99 rfl (lv_at hl 3 rfl) ?_
          refine lv_icmp_ne (tgt := 108) hx hb dX9_bill_100 (by decide) (fun c_4 => ?_) (fun c_4 => ?_)
          · skip
            refine lv_iconst (v := (0 : Int32)) hx hb dX9_bill_108 (by decide) ?_
            refine lv_isub hx hb dX9_bill_109 ?_
            refine lv_istore_n (lv' := [(3, .int ((su + (m_X9_lateOf (mN mo) u x2)) - (0 : Int32))), (5, .int (m_X9_lateOf (mN mo) u x2)), (0, .ref a0), (1, .int x1), (2, .int x2), (4, .int u)]) hx hb dX9_bill_110 rfl hl (by decide) rfl (fun ls hl => ?_)
            refine lv_iinc (v := (u + (1 : Int32))) (lv' := [(4, .int (u + (1 : Int32))), (3, .int ((su + (m_X9_lateOf (mN mo) u x2)) - (0 : Int32))), (5, .int (m_X9_lateOf (mN mo) u x2)), (0, .ref a0), (1, .int x1), (2, .int x2)]) hx hb dX9_bill_111 hl (k := 5) rfl rfl (by decide) rfl (fun ls hl => ?_)
            refine lv_goto (tgt := 42) hx hb dX9_bill_114 (by decide) ?_
            exact ih  ((su + (m_X9_lateOf (mN mo) u x2)) - (0 : Int32)) (u + (1 : Int32)) (lp_up h0 c_1) (lp_dec h0 c_1 hm) (by rw [← hQ, m_X9_bill_L42, if_neg c_1, if_pos c_2, if_neg c_4]) H locs hP hD hS ls (lv_sub hl [3, 4, 5, 1, 0] rfl)
          · skip
            refine lv_iload hx hb dX9_bill_103 (lv_at hl 1 rfl) ?_
            refine lv_goto (tgt := 109) hx hb dX9_bill_105 (by decide) ?_
            refine lv_isub hx hb dX9_bill_109 ?_
            refine lv_istore_n (lv' := [(3, .int ((su + (m_X9_lateOf (mN mo) u x2)) - (m_X9_lateOf (mN mo) u x2))), (5, .int (m_X9_lateOf (mN mo) u x2)), (0, .ref a0), (1, .int x1), (2, .int x2), (4, .int u)]) hx hb dX9_bill_110 rfl hl (by decide) rfl (fun ls hl => ?_)
            refine lv_iinc (v := (u + (1 : Int32))) (lv' := [(4, .int (u + (1 : Int32))), (3, .int ((su + (m_X9_lateOf (mN mo) u x2)) - (m_X9_lateOf (mN mo) u x2))), (5, .int (m_X9_lateOf (mN mo) u x2)), (0, .ref a0), (1, .int x1), (2, .int x2)]) hx hb dX9_bill_111 hl (k := 5) rfl rfl (by decide) rfl (fun ls hl => ?_)
            refine lv_goto (tgt := 42) hx hb dX9_bill_114 (by decide) ?_
            exact ih  ((su + (m_X9_lateOf (mN mo) u x2)) - (m_X9_lateOf (mN mo) u x2)) (u + (1 : Int32)) (lp_up h0 c_1) (lp_dec h0 c_1 hm) (by rw [← hQ, m_X9_bill_L42, if_neg c_1, if_pos c_2, if_pos c_4]) H locs hP hD hS ls (lv_sub hl [3, 4, 5, 1, 0] rfl)
  refine lv_aload_n hx hb dX9_bill_0 rfl (lv_at hl 0 rfl) ?_
  refine lv_iload_n hx hb dX9_bill_1 rfl (lv_at hl 1 rfl) ?_
  refine roS (wc := ([] : va_W)) (As := [.int x1]) (rest := [.ref a0]) (c_X9_isHolder l D cy x1) hCF gX9_bill_X9_isHolder rfl hd_X9_isHolder ⟨rfl, rfl, Nat.le_of_ble_eq_true rfl, Nat.le_of_ble_eq_true rfl⟩ hG va_P_nil rfl hl.1 rfl (Nat.le_of_ble_eq_true rfl) dX9_bill_2 ⟨Nat.le_refl _, Nat.le_refl _⟩ ?_
  refine lv_if_ne (tgt := 12) hx hb dX9_bill_5 (by decide) (fun c_5 => ?_) (fun c_5 => ?_)
  · skip
    refine lv_iload_n hx hb dX9_bill_12 rfl (lv_at hl 2 rfl) ?_
    refine lv_i2l hx hb dX9_bill_13 rfl ?_
    refine lv_lconst (v := (0 : Int64)) hx hb dX9_bill_14 (by decide) ?_
    refine lv_ldc2 (v := (99 : Int64)) hx hb hown k_1 dX9_bill_15 ?_
    refine roS (wc := ([] : va_W)) (As := [.long x2.toInt64, .long (0 : Int64), .long (99 : Int64)]) (rest := [.ref a0]) (c_X9_in l D cy x2.toInt64 (0 : Int64) (99 : Int64)) hCF gX9_bill_X9_in rfl hd_X9_in ⟨rfl, rfl, Nat.le_of_ble_eq_true rfl, Nat.le_of_ble_eq_true rfl⟩ hG va_P_nil rfl hl.1 rfl (Nat.le_of_ble_eq_true rfl) dX9_bill_18 ⟨Nat.le_refl _, Nat.le_refl _⟩ ?_
    refine lv_if_eq (tgt := 28) hx hb dX9_bill_21 (by decide) (fun c_6 => ?_) (fun c_6 => ?_)
    · skip
      refine lv_iconst (v := (2 : Int32)) hx hb dX9_bill_28 (by decide) ?_
      refine muV (A0 := A) (wc := (wMo cy a0 a1 a2 a3 a4 a5 a6 mo)) (As := [.int (2 : Int32)]) (rest := []) (c_X9_refused l D cy a0 a1 a2 a3 a4 a5 a6 mo (2 : Int32)) hCF gX9_bill_X9_refused rfl hd_X9_refused ⟨rfl, rfl, Nat.le_of_ble_eq_true rfl, Nat.le_of_ble_eq_true rfl⟩ hG hP hD hS hA [0, 1, 2, 3, 4, 5, 6] rfl c_Mo_Mo h_Mo (ci := 7) rfl rfl g_Mo_0 rfl hl.1 rfl (Nat.le_of_ble_eq_true rfl) dX9_bill_29 ⟨Nat.le_refl _, Nat.le_refl _⟩ (fun H locs hP hD hS => ?_)
      have hP : va_P D vwCl (wMo cy a0 a1 a2 a3 a4 a5 a6 (mR' mo (2 : Int32))) H := va_P_eq hP r_Mo_Mo
      have hD : va_D A (wMo cy a0 a1 a2 a3 a4 a5 a6 (mR' mo (2 : Int32))) := va_D_eq hD r_Mo_Mo
      refine lv_if_eq (tgt := 37) hx hb dX9_bill_32 (by decide) (fun c => absurd c (rf_lit2 _)) (fun _ => ?_)
      refine lv_iconst (v := (0 : Int32)) hx hb dX9_bill_35 (by decide) ?_
      exact mu_iret hx hb hr hlocks hP hS dX9_bill_36 (by rw [m_X9_bill, if_neg c_5, if_pos c_6]) (by rw [m_X9_bill, if_neg c_5, if_pos c_6])
    · skip
      refine lv_iconst (v := (0 : Int32)) hx hb dX9_bill_24 (by decide) ?_
      refine lv_goto (tgt := 29) hx hb dX9_bill_25 (by decide) ?_
      refine muV (A0 := A) (wc := (wMo cy a0 a1 a2 a3 a4 a5 a6 mo)) (As := [.int (0 : Int32)]) (rest := []) (c_X9_refused l D cy a0 a1 a2 a3 a4 a5 a6 mo (0 : Int32)) hCF gX9_bill_X9_refused rfl hd_X9_refused ⟨rfl, rfl, Nat.le_of_ble_eq_true rfl, Nat.le_of_ble_eq_true rfl⟩ hG hP hD hS hA [0, 1, 2, 3, 4, 5, 6] rfl c_Mo_Mo h_Mo (ci := 7) rfl rfl g_Mo_0 rfl hl.1 rfl (Nat.le_of_ble_eq_true rfl) dX9_bill_29 ⟨Nat.le_refl _, Nat.le_refl _⟩ (fun H locs hP hD hS => ?_)
      have hP : va_P D vwCl (wMo cy a0 a1 a2 a3 a4 a5 a6 (mR' mo (0 : Int32))) H := va_P_eq hP r_Mo_Mo
      have hD : va_D A (wMo cy a0 a1 a2 a3 a4 a5 a6 (mR' mo (0 : Int32))) := va_D_eq hD r_Mo_Mo
      refine lv_if_eq (tgt := 37) hx hb dX9_bill_32 (by decide) (fun _ => ?_) (fun c => absurd (rf_lit0 _) c)
      refine lv_iconst (v := (0 : Int32)) hx hb dX9_bill_37 (by decide) ?_
      refine lv_istore_n (lv' := [(3, .int (0 : Int32)), (0, .ref a0), (1, .int x1), (2, .int x2)]) hx hb dX9_bill_38 rfl hl (by decide) rfl (fun ls hl => ?_)
      refine lv_iconst (v := (0 : Int32)) hx hb dX9_bill_39 (by decide) ?_
      refine lv_istore (lv' := [(4, .int (0 : Int32)), (3, .int (0 : Int32)), (0, .ref a0), (1, .int x1), (2, .int x2)]) hx hb dX9_bill_40 hl (by decide) rfl (fun ls hl => ?_)
      exact L_42 100 (0 : Int32) (0 : Int32) (by decide) (lp_init (M := 16) (rk_many hM).2 (by decide)) (by rw [m_X9_bill, if_neg c_5, if_neg c_6]) H locs hP hD hS ls (lv_sub hl [2, 3, 4, 1, 0] rfl)
  · skip
    refine lv_iconst (v := (1 : Int32)) hx hb dX9_bill_8 (by decide) ?_
    refine lv_goto (tgt := 29) hx hb dX9_bill_9 (by decide) ?_
    refine muV (A0 := A) (wc := (wMo cy a0 a1 a2 a3 a4 a5 a6 mo)) (As := [.int (1 : Int32)]) (rest := []) (c_X9_refused l D cy a0 a1 a2 a3 a4 a5 a6 mo (1 : Int32)) hCF gX9_bill_X9_refused rfl hd_X9_refused ⟨rfl, rfl, Nat.le_of_ble_eq_true rfl, Nat.le_of_ble_eq_true rfl⟩ hG hP hD hS hA [0, 1, 2, 3, 4, 5, 6] rfl c_Mo_Mo h_Mo (ci := 7) rfl rfl g_Mo_0 rfl hl.1 rfl (Nat.le_of_ble_eq_true rfl) dX9_bill_29 ⟨Nat.le_refl _, Nat.le_refl _⟩ (fun H locs hP hD hS => ?_)
    have hP : va_P D vwCl (wMo cy a0 a1 a2 a3 a4 a5 a6 (mR' mo (1 : Int32))) H := va_P_eq hP r_Mo_Mo
    have hD : va_D A (wMo cy a0 a1 a2 a3 a4 a5 a6 (mR' mo (1 : Int32))) := va_D_eq hD r_Mo_Mo
    refine lv_if_eq (tgt := 37) hx hb dX9_bill_32 (by decide) (fun c => absurd c (rf_lit1 _)) (fun _ => ?_)
    refine lv_iconst (v := (0 : Int32)) hx hb dX9_bill_35 (by decide) ?_
    exact mu_iret hx hb hr hlocks hP hS dX9_bill_36 (by rw [m_X9_bill, if_pos c_5]) (by rw [m_X9_bill, if_pos c_5])
def m_X9_firstDue_L9 : Nat → MoT → Int32 → Int32 → Int32 × MoT
  | 0, mo, _, _ => (0, mo)
  | nF + 1, mo, be, u => if ((mN mo) (1 : Int32).toNatClampNeg) ≤ u then (be, mR' mo (0 : Int32)) else if (m_X9_isFree (mN mo) u) = (0 : Int32) then if be = (-1 : Int32) then m_X9_firstDue_L9 nF mo u (u + (1 : Int32)) else if (m_X9_of (mN mo) be (4 : Int32)) ≤ (m_X9_of (mN mo) u (4 : Int32)) then m_X9_firstDue_L9 nF mo be (u + (1 : Int32)) else m_X9_firstDue_L9 nF mo u (u + (1 : Int32)) else m_X9_firstDue_L9 nF mo be (u + (1 : Int32))
def m_X9_firstDue (mo : MoT) : Int32 × MoT := m_X9_firstDue_L9 100 mo (-1 : Int32) (0 : Int32)
theorem hd_X9_firstDue : yX9_firstDue.cls = RX9 ∧ yX9_firstDue.cls ≠ "java/lang/invoke/MethodHandle" ∧ yX9_firstDue.cls ≠ "java/lang/invoke/VarHandle" ∧ (parseMethodDescriptor yX9_firstDue.desc).map (fun d => d.parameters.length) = some 0 := by decide +kernel
set_option maxHeartbeats 8000000 in
set_option maxRecDepth 20000 in
theorem c_X9_firstDue (l : Launch) (D : va_G) (cy : Nat → ClassId) (a0 a1 a2 a3 a4 a5 a6 : Nat) (mo : MoT) (hM : rOK (mN mo)) : MU l D cy yX9_firstDue wsX9_firstDue ({ frames := 2, cells := 0, slots := 0, locals := 43 } : Room) (wMo cy a0 a1 a2 a3 a4 a5 a6 mo) (wMo cy a0 a1 a2 a3 a4 a5 a6 (m_X9_firstDue mo).2) [.ref a0] (m_X9_firstDue mo).1 := by
  refine MU.body (by decide) rfl (Nat.le_of_ble_eq_true rfl) ?_
  intro p e s m below meth c hx hb hml hr hts hown hlocks hP hG ls hl A hD hA hS
  have hl : lv_has ls 4 [(0, .ref a0)] := hl
  have hCF : CallFix p m c cX9_firstDue 4 s ([.ref a0] : List Value).toArray wsX9_firstDue RX9 := ⟨hx, hb, hml, hown, hts⟩
  have in_X9 : ∀ w ∈ u_ws RX9 TX9 11, w ∈ wsX9_firstDue := fun _ h => List.mem_cons_of_mem _ (List.mem_append_right _ h)
  have k_0 := hts (Cond.fieldLink RX9 13 "SparePoolModel" "now" "[I") (List.mem_of_getElem? (i := 2) rfl)
  have k_1 := hts (Cond.fieldLink RX9 33 "SparePoolModel" "refusal" "I") (List.mem_of_getElem? (i := 1) rfl)
  have hP : va_P D vwCl (wMo cy a0 a1 a2 a3 a4 a5 a6 mo) s.heap := hP
  have L_9 : ∀ (nF : Nat) (be : Int32) (u : Int32), 0 ≤ u.toInt → be = (-1 : Int32) ∨ iv 0 15 be → (((mN mo) (1 : Int32).toNatClampNeg).toInt - u.toInt).toNat < nF → m_X9_firstDue_L9 nF mo be u = (m_X9_firstDue mo) → ∀ (H : Heap) (locs : List Loc), va_P D vwCl (wMo cy a0 a1 a2 a3 a4 a5 a6 (mR' mo (0 : Int32))) H → va_D A (wMo cy a0 a1 a2 a3 a4 a5 a6 (mR' mo (0 : Int32))) → va_S A s.heap H locs → ∀ ls : Array Slot, lv_has ls 4 [(0, .ref a0), (1, .int be), (2, .int u)] → W p l e ({ frames := 2, cells := 0, slots := 0, locals := 43 } : Room) s m ([.ref a0] : List Value).toArray below meth c H locs 0 0 (MQ below (va_Qi (fun v_ (_ : Unit) => v_ = (m_X9_firstDue mo).1) (fun _ t => va_P D vwCl (wMo cy a0 a1 a2 a3 a4 a5 a6 (m_X9_firstDue mo).2) t.heap) A) ([.ref a0] : List Value).toArray s 0 0 A) (F0 m 9 ls []) := by
    intro nF
    induction nF with
    | zero => intro be u h0 hf hm; exact absurd hm (Nat.not_lt_zero _)
    | succ nF ih =>
      intro be u h0 hf hm hQ H locs hP hD hS ls hl
      refine lv_iload_n hx hb dX9_firstDue_9 rfl (lv_at hl 2 rfl) ?_
      refine lv_aload_n hx hb dX9_firstDue_10 rfl (lv_at hl 0 rfl) ?_
      refine va_get (D := D) (ci := 7) (v := .ref a2) (C := RX9) (T := TX9) (N := 11) hx hb hts in_X9 hown hG.1 hP 0 g_Mo_0 rfl 3 (by decide) k_0 (fun _ h9 => h9) rfl dX9_firstDue_11 ?_
      refine lv_iconst (v := (1 : Int32)) hx hb dX9_firstDue_14 (by decide) ?_
      refine va_iald hx hb hG.1 hP 2 0 (n := 383) (f := (mN mo)) g_Mo_2 rfl (bd_of (by decide) (by decide)) dX9_firstDue_15 ?_
      refine lv_icmp_ge (tgt := 78) hx hb dX9_firstDue_16 (by decide) (fun c_1 => ?_) (fun c_1 => ?_)
      · skip
        refine lv_iload_n hx hb dX9_firstDue_78 rfl (lv_at hl 1 rfl) ?_
        exact mu_iret hx hb hr hlocks hP hS dX9_firstDue_79 (by rw [← hQ, m_X9_firstDue_L9, if_pos c_1]) (by rw [← hQ, m_X9_firstDue_L9, if_pos c_1])
      · skip
        refine lv_aload_n hx hb dX9_firstDue_19 rfl (lv_at hl 0 rfl) ?_
        refine va_get (D := D) (ci := 7) (v := .ref a2) (C := RX9) (T := TX9) (N := 11) hx hb hts in_X9 hown hG.1 hP 0 g_Mo_0 rfl 3 (by decide) k_0 (fun _ h9 => h9) rfl dX9_firstDue_20 ?_
        refine lv_iload_n hx hb dX9_firstDue_23 rfl (lv_at hl 2 rfl) ?_
        refine roS (wc := (wAr cy a2 (mN mo))) (As := [.ref a2, .int u]) (rest := []) (c_X9_isFree l D cy a2 (mN mo) u (iv_loop (M := 16) (h := 15) h0 c_1 ((rk_many hM).2) (by decide))) hCF gX9_firstDue_X9_isFree rfl hd_X9_isFree ⟨rfl, rfl, Nat.le_of_ble_eq_true rfl, Nat.le_of_ble_eq_true rfl⟩ hG (hP.sub (ws' := (wAr cy a2 (mN mo))) [2] u_Mo_Ar2) rfl hl.1 rfl (Nat.le_of_ble_eq_true rfl) dX9_firstDue_24 ⟨Nat.le_refl _, Nat.le_refl _⟩ ?_
        refine lv_if_ne (tgt := 34) hx hb dX9_firstDue_27 (by decide) (fun c_2 => ?_) (fun c_2 => ?_)
        · skip
          refine lv_iconst (v := (0 : Int32)) hx hb dX9_firstDue_34 (by decide) ?_
          refine lv_istore_n (lv' := [(3, .int (0 : Int32)), (0, .ref a0), (1, .int be), (2, .int u)]) hx hb dX9_firstDue_35 rfl hl (by decide) rfl (fun ls hl => ?_)
          refine lv_iload_n hx hb dX9_firstDue_36 rfl (lv_at hl 0 rfl) ?_
          refine lv_if_eq (tgt := 70) hx hb dX9_firstDue_37 (by decide) (fun _ => ?_) (fun c => absurd (by decide) c)
          refine lv_iload_n hx hb dX9_firstDue_70 rfl (lv_at hl 2 rfl) ?_
          refine lv_istore_n (lv' := [(1, .int be), (3, .int (0 : Int32)), (0, .ref a0), (2, .int u)]) hx hb dX9_firstDue_71 rfl hl (by decide) rfl (fun ls hl => ?_)
          refine lv_iinc (v := (u + (1 : Int32))) (lv' := [(2, .int (u + (1 : Int32))), (1, .int be), (3, .int (0 : Int32)), (0, .ref a0)]) hx hb dX9_firstDue_72 hl (k := 3) rfl rfl (by decide) rfl (fun ls hl => ?_)
          refine lv_goto (tgt := 9) hx hb dX9_firstDue_75 (by decide) ?_
          exact ih  be (u + (1 : Int32)) (lp_up h0 c_1) hf (lp_dec h0 c_1 hm) (by rw [← hQ, m_X9_firstDue_L9, if_neg c_1, if_neg c_2]) H locs hP hD hS ls (lv_sub hl [3, 1, 0] rfl)
        · skip
          refine lv_iconst (v := (1 : Int32)) hx hb dX9_firstDue_30 (by decide) ?_
          refine lv_goto (tgt := 35) hx hb dX9_firstDue_31 (by decide) ?_
          refine lv_istore_n (lv' := [(3, .int (1 : Int32)), (0, .ref a0), (1, .int be), (2, .int u)]) hx hb dX9_firstDue_35 rfl hl (by decide) rfl (fun ls hl => ?_)
          refine lv_iload_n hx hb dX9_firstDue_36 rfl (lv_at hl 0 rfl) ?_
          refine lv_if_eq (tgt := 70) hx hb dX9_firstDue_37 (by decide) (fun c => absurd c (by decide)) (fun _ => ?_)
          refine lv_iload_n hx hb dX9_firstDue_40 rfl (lv_at hl 2 rfl) ?_
          refine lv_iconst (v := (-1 : Int32)) hx hb dX9_firstDue_41 (by decide) ?_
          refine lv_icmp_eq (tgt := 66) hx hb dX9_firstDue_42 (by decide) (fun c_3 => ?_) (fun c_3 => ?_)
          · skip
            refine lv_iload_n hx hb dX9_firstDue_66 rfl (lv_at hl 3 rfl) ?_
            refine lv_goto (tgt := 71) hx hb dX9_firstDue_67 (by decide) ?_
            refine lv_istore_n (lv' := [(1, .int u), (3, .int (1 : Int32)), (0, .ref a0), (2, .int u)]) hx hb dX9_firstDue_71 rfl hl (by decide) rfl (fun ls hl => ?_)
            refine lv_iinc (v := (u + (1 : Int32))) (lv' := [(2, .int (u + (1 : Int32))), (1, .int u), (3, .int (1 : Int32)), (0, .ref a0)]) hx hb dX9_firstDue_72 hl (k := 3) rfl rfl (by decide) rfl (fun ls hl => ?_)
            refine lv_goto (tgt := 9) hx hb dX9_firstDue_75 (by decide) ?_
            exact ih  u (u + (1 : Int32)) (lp_up h0 c_1) (Or.inr (iv_loop (M := 16) (h := 15) h0 c_1 ((rk_many hM).2) (by decide))) (lp_dec h0 c_1 hm) (by rw [← hQ, m_X9_firstDue_L9, if_neg c_1, if_pos c_2, if_pos c_3]) H locs hP hD hS ls (lv_sub hl [3, 1, 0] rfl)
          · skip
            refine lv_aload_n hx hb dX9_firstDue_45 rfl (lv_at hl 1 rfl) ?_
            refine va_get (D := D) (ci := 7) (v := .ref a2) (C := RX9) (T := TX9) (N := 11) hx hb hts in_X9 hown hG.1 hP 0 g_Mo_0 rfl 3 (by decide) k_0 (fun _ h9 => h9) rfl dX9_firstDue_46 ?_
            refine lv_iload_n hx hb dX9_firstDue_49 rfl (lv_at hl 3 rfl) ?_
            refine lv_iconst (v := (4 : Int32)) hx hb dX9_firstDue_50 (by decide) ?_
            refine roS (wc := (wAr cy a2 (mN mo))) (As := [.ref a2, .int u, .int (4 : Int32)]) (rest := []) (c_X9_of l D cy a2 (mN mo) u (4 : Int32) (iv_loop (M := 16) (h := 15) h0 c_1 ((rk_many hM).2) (by decide)) (iv_wide (l2 := 0) (h2 := 4) (iv_lit (v := 4) (by decide)) (by decide))) hCF gX9_firstDue_X9_of rfl hd_X9_of ⟨rfl, rfl, Nat.le_of_ble_eq_true rfl, Nat.le_of_ble_eq_true rfl⟩ hG (hP.sub (ws' := (wAr cy a2 (mN mo))) [2] u_Mo_Ar2) rfl hl.1 rfl (Nat.le_of_ble_eq_true rfl) dX9_firstDue_51 ⟨Nat.le_refl _, Nat.le_refl _⟩ ?_
            refine lv_aload_n hx hb dX9_firstDue_54 rfl (lv_at hl 1 rfl) ?_
            refine va_get (D := D) (ci := 7) (v := .ref a2) (C := RX9) (T := TX9) (N := 11) hx hb hts in_X9 hown hG.1 hP 0 g_Mo_0 rfl 3 (by decide) k_0 (fun _ h9 => h9) rfl dX9_firstDue_55 ?_
            refine lv_iload_n hx hb dX9_firstDue_58 rfl (lv_at hl 2 rfl) ?_
            refine lv_iconst (v := (4 : Int32)) hx hb dX9_firstDue_59 (by decide) ?_
            refine roS (wc := (wAr cy a2 (mN mo))) (As := [.ref a2, .int be, .int (4 : Int32)]) (rest := [.int (m_X9_of (mN mo) u (4 : Int32))]) (c_X9_of l D cy a2 (mN mo) be (4 : Int32) (hf.resolve_left c_3) (iv_wide (l2 := 0) (h2 := 4) (iv_lit (v := 4) (by decide)) (by decide))) hCF gX9_firstDue_X9_of rfl hd_X9_of ⟨rfl, rfl, Nat.le_of_ble_eq_true rfl, Nat.le_of_ble_eq_true rfl⟩ hG (hP.sub (ws' := (wAr cy a2 (mN mo))) [2] u_Mo_Ar2) rfl hl.1 rfl (Nat.le_of_ble_eq_true rfl) dX9_firstDue_60 ⟨Nat.le_refl _, Nat.le_refl _⟩ ?_
            refine lv_icmp_ge (tgt := 70) hx hb dX9_firstDue_63 (by decide) (fun c_4 => ?_) (fun c_4 => ?_)
            · skip
              refine lv_iload_n hx hb dX9_firstDue_70 rfl (lv_at hl 2 rfl) ?_
              refine lv_istore_n (lv' := [(1, .int be), (3, .int (1 : Int32)), (0, .ref a0), (2, .int u)]) hx hb dX9_firstDue_71 rfl hl (by decide) rfl (fun ls hl => ?_)
              refine lv_iinc (v := (u + (1 : Int32))) (lv' := [(2, .int (u + (1 : Int32))), (1, .int be), (3, .int (1 : Int32)), (0, .ref a0)]) hx hb dX9_firstDue_72 hl (k := 3) rfl rfl (by decide) rfl (fun ls hl => ?_)
              refine lv_goto (tgt := 9) hx hb dX9_firstDue_75 (by decide) ?_
              exact ih  be (u + (1 : Int32)) (lp_up h0 c_1) hf (lp_dec h0 c_1 hm) (by rw [← hQ, m_X9_firstDue_L9, if_neg c_1, if_pos c_2, if_neg c_3, if_pos c_4]) H locs hP hD hS ls (lv_sub hl [3, 1, 0] rfl)
            · skip
              refine lv_iload_n hx hb dX9_firstDue_66 rfl (lv_at hl 3 rfl) ?_
              refine lv_goto (tgt := 71) hx hb dX9_firstDue_67 (by decide) ?_
              refine lv_istore_n (lv' := [(1, .int u), (3, .int (1 : Int32)), (0, .ref a0), (2, .int u)]) hx hb dX9_firstDue_71 rfl hl (by decide) rfl (fun ls hl => ?_)
              refine lv_iinc (v := (u + (1 : Int32))) (lv' := [(2, .int (u + (1 : Int32))), (1, .int u), (3, .int (1 : Int32)), (0, .ref a0)]) hx hb dX9_firstDue_72 hl (k := 3) rfl rfl (by decide) rfl (fun ls hl => ?_)
              refine lv_goto (tgt := 9) hx hb dX9_firstDue_75 (by decide) ?_
              exact ih  u (u + (1 : Int32)) (lp_up h0 c_1) (Or.inr (iv_loop (M := 16) (h := 15) h0 c_1 ((rk_many hM).2) (by decide))) (lp_dec h0 c_1 hm) (by rw [← hQ, m_X9_firstDue_L9, if_neg c_1, if_pos c_2, if_neg c_3, if_neg c_4]) H locs hP hD hS ls (lv_sub hl [3, 1, 0] rfl)
  refine lv_aload_n hx hb dX9_firstDue_0 rfl (lv_at hl 0 rfl) ?_
  refine lv_iconst (v := (0 : Int32)) hx hb dX9_firstDue_1 (by decide) ?_
  refine va_put (D := D) (ci := 7) (v := .int (0 : Int32)) (ty := .int) (C := RX9) (T := TX9) (N := 11) hx hb hts in_X9 tyX9 tyX9_ok nmX9 hown hG.1 hP hD hS 0 g_Mo_0 rfl 0 (by decide) k_1 (fun _ h9 => h9) rfl (by decide +kernel) rfl rfl (Nat.le_of_ble_eq_true rfl) dX9_firstDue_2 (fun H locs hP hD hS => ?_)
  have hP : va_P D vwCl (wMo cy a0 a1 a2 a3 a4 a5 a6 (mR' mo (0 : Int32))) H := va_P_eq hP s_Mo_0_0
  have hD : va_D A (wMo cy a0 a1 a2 a3 a4 a5 a6 (mR' mo (0 : Int32))) := va_D_eq hD s_Mo_0_0
  refine lv_iconst (v := (-1 : Int32)) hx hb dX9_firstDue_5 (by decide) ?_
  refine lv_istore_n (lv' := [(1, .int (-1 : Int32)), (0, .ref a0)]) hx hb dX9_firstDue_6 rfl hl (by decide) rfl (fun ls hl => ?_)
  refine lv_iconst (v := (0 : Int32)) hx hb dX9_firstDue_7 (by decide) ?_
  refine lv_istore_n (lv' := [(2, .int (0 : Int32)), (1, .int (-1 : Int32)), (0, .ref a0)]) hx hb dX9_firstDue_8 rfl hl (by decide) rfl (fun ls hl => ?_)
  exact L_9 100 (-1 : Int32) (0 : Int32) (by decide) (Or.inl rfl) (lp_init (M := 16) (rk_many hM).2 (by decide)) (by rw [m_X9_firstDue]) H locs hP hD hS ls (lv_sub hl [2, 1, 0] rfl)
def m_X9_cheapest_L33 : Nat → MoT → Int32 → Int32 → Int32 → Int32 → Int32 × MoT
  | 0, mo, _, _, _, _ => (0, mo)
  | nF + 1, mo, x1, x2, be, u => if ((mN mo) (1 : Int32).toNatClampNeg) ≤ u then (be, mR' mo (0 : Int32)) else if x1 = (4 : Int32) then (be, mR' mo (0 : Int32)) else if (m_X9_of (mN mo) u (1 : Int32)) = x1 then if (m_X9_isFree (mN mo) u) = (0 : Int32) then m_X9_cheapest_L33 nF mo x1 x2 be (u + (1 : Int32)) else if (m_X9_of (mN mo) u (0 : Int32)) = x2 then if be = (-1 : Int32) then m_X9_cheapest_L33 nF mo x1 x2 u (u + (1 : Int32)) else if (m_X9_priceOf (mN mo) be) ≤ (m_X9_priceOf (mN mo) u) then m_X9_cheapest_L33 nF mo x1 x2 be (u + (1 : Int32)) else m_X9_cheapest_L33 nF mo x1 x2 u (u + (1 : Int32)) else m_X9_cheapest_L33 nF mo x1 x2 be (u + (1 : Int32)) else m_X9_cheapest_L33 nF mo x1 x2 be (u + (1 : Int32))
def m_X9_cheapest (mo : MoT) (x1 : Int32) (x2 : Int32) : Int32 × MoT := if (m_X9_isHolder x1) = (0 : Int32) then ((0 : Int32), mR' mo (1 : Int32)) else if (m_X9_isKind x2) = (0 : Int32) then ((0 : Int32), mR' mo (1 : Int32)) else m_X9_cheapest_L33 100 mo x1 x2 (-1 : Int32) (0 : Int32)
theorem hd_X9_cheapest : yX9_cheapest.cls = RX9 ∧ yX9_cheapest.cls ≠ "java/lang/invoke/MethodHandle" ∧ yX9_cheapest.cls ≠ "java/lang/invoke/VarHandle" ∧ (parseMethodDescriptor yX9_cheapest.desc).map (fun d => d.parameters.length) = some 2 := by decide +kernel
set_option maxHeartbeats 8000000 in
set_option maxRecDepth 20000 in
theorem c_X9_cheapest (l : Launch) (D : va_G) (cy : Nat → ClassId) (a0 a1 a2 a3 a4 a5 a6 : Nat) (mo : MoT) (x1 : Int32) (x2 : Int32) (hM : rOK (mN mo)) : MU l D cy yX9_cheapest wsX9_cheapest ({ frames := 3, cells := 0, slots := 0, locals := 65 } : Room) (wMo cy a0 a1 a2 a3 a4 a5 a6 mo) (wMo cy a0 a1 a2 a3 a4 a5 a6 (m_X9_cheapest mo x1 x2).2) [.ref a0, .int x1, .int x2] (m_X9_cheapest mo x1 x2).1 := by
  refine MU.body (by decide) rfl (Nat.le_of_ble_eq_true rfl) ?_
  intro p e s m below meth c hx hb hml hr hts hown hlocks hP hG ls hl A hD hA hS
  have hl : lv_has ls 6 [(0, .ref a0), (1, .int x1), (2, .int x2)] := hl
  have hCF : CallFix p m c cX9_cheapest 6 s ([.ref a0, .int x1, .int x2] : List Value).toArray wsX9_cheapest RX9 := ⟨hx, hb, hml, hown, hts⟩
  have in_X9 : ∀ w ∈ u_ws RX9 TX9 11, w ∈ wsX9_cheapest := fun _ h => List.mem_cons_of_mem _ (List.mem_append_right _ h)
  have k_0 := hts (Cond.fieldLink RX9 13 "SparePoolModel" "now" "[I") (List.mem_of_getElem? (i := 1) rfl)
  have hP : va_P D vwCl (wMo cy a0 a1 a2 a3 a4 a5 a6 mo) s.heap := hP
  have L_33 : ∀ (nF : Nat) (be : Int32) (u : Int32), 0 ≤ u.toInt → be = (-1 : Int32) ∨ iv 0 15 be → (((mN mo) (1 : Int32).toNatClampNeg).toInt - u.toInt).toNat < nF → m_X9_cheapest_L33 nF mo x1 x2 be u = (m_X9_cheapest mo x1 x2) → ∀ (H : Heap) (locs : List Loc), va_P D vwCl (wMo cy a0 a1 a2 a3 a4 a5 a6 (mR' mo (0 : Int32))) H → va_D A (wMo cy a0 a1 a2 a3 a4 a5 a6 (mR' mo (0 : Int32))) → va_S A s.heap H locs → ∀ ls : Array Slot, lv_has ls 6 [(0, .ref a0), (1, .int x1), (2, .int x2), (3, .int be), (4, .int u)] → W p l e ({ frames := 3, cells := 0, slots := 0, locals := 65 } : Room) s m ([.ref a0, .int x1, .int x2] : List Value).toArray below meth c H locs 0 0 (MQ below (va_Qi (fun v_ (_ : Unit) => v_ = (m_X9_cheapest mo x1 x2).1) (fun _ t => va_P D vwCl (wMo cy a0 a1 a2 a3 a4 a5 a6 (m_X9_cheapest mo x1 x2).2) t.heap) A) ([.ref a0, .int x1, .int x2] : List Value).toArray s 0 0 A) (F0 m 33 ls []) := by
    intro nF
    induction nF with
    | zero => intro be u h0 hf hm; exact absurd hm (Nat.not_lt_zero _)
    | succ nF ih =>
      intro be u h0 hf hm hQ H locs hP hD hS ls hl
      refine lv_iload hx hb dX9_cheapest_33 (lv_at hl 4 rfl) ?_
      refine lv_aload_n hx hb dX9_cheapest_35 rfl (lv_at hl 0 rfl) ?_
      refine va_get (D := D) (ci := 7) (v := .ref a2) (C := RX9) (T := TX9) (N := 11) hx hb hts in_X9 hown hG.1 hP 0 g_Mo_0 rfl 3 (by decide) k_0 (fun _ h9 => h9) rfl dX9_cheapest_36 ?_
      refine lv_iconst (v := (1 : Int32)) hx hb dX9_cheapest_39 (by decide) ?_
      refine va_iald hx hb hG.1 hP 2 0 (n := 383) (f := (mN mo)) g_Mo_2 rfl (bd_of (by decide) (by decide)) dX9_cheapest_40 ?_
      refine lv_icmp_ge (tgt := 139) hx hb dX9_cheapest_41 (by decide) (fun c_1 => ?_) (fun c_1 => ?_)
      · skip
        refine lv_iload_n hx hb dX9_cheapest_139 rfl (lv_at hl 3 rfl) ?_
        exact mu_iret hx hb hr hlocks hP hS dX9_cheapest_140 (by rw [← hQ, m_X9_cheapest_L33, if_pos c_1]) (by rw [← hQ, m_X9_cheapest_L33, if_pos c_1])
      · skip
        refine lv_iload_n hx hb dX9_cheapest_44 rfl (lv_at hl 1 rfl) ?_
        refine lv_iconst (v := (4 : Int32)) hx hb dX9_cheapest_45 (by decide) ?_
        refine lv_icmp_eq (tgt := 139) hx hb dX9_cheapest_46 (by decide) (fun c_2 => ?_) (fun c_2 => ?_)
        · skip
          refine lv_iload_n hx hb dX9_cheapest_139 rfl (lv_at hl 3 rfl) ?_
          exact mu_iret hx hb hr hlocks hP hS dX9_cheapest_140 (by rw [← hQ, m_X9_cheapest_L33, if_neg c_1, if_pos c_2]) (by rw [← hQ, m_X9_cheapest_L33, if_neg c_1, if_pos c_2])
        · skip
          refine lv_aload_n hx hb dX9_cheapest_49 rfl (lv_at hl 0 rfl) ?_
          refine va_get (D := D) (ci := 7) (v := .ref a2) (C := RX9) (T := TX9) (N := 11) hx hb hts in_X9 hown hG.1 hP 0 g_Mo_0 rfl 3 (by decide) k_0 (fun _ h9 => h9) rfl dX9_cheapest_50 ?_
          refine lv_iload hx hb dX9_cheapest_53 (lv_at hl 4 rfl) ?_
          refine lv_iconst (v := (1 : Int32)) hx hb dX9_cheapest_55 (by decide) ?_
          refine roS (wc := (wAr cy a2 (mN mo))) (As := [.ref a2, .int u, .int (1 : Int32)]) (rest := []) (c_X9_of l D cy a2 (mN mo) u (1 : Int32) (iv_loop (M := 16) (h := 15) h0 c_1 ((rk_many hM).2) (by decide)) (iv_wide (l2 := 0) (h2 := 4) (iv_lit (v := 1) (by decide)) (by decide))) hCF gX9_cheapest_X9_of rfl hd_X9_of ⟨rfl, rfl, Nat.le_of_ble_eq_true rfl, Nat.le_of_ble_eq_true rfl⟩ hG (hP.sub (ws' := (wAr cy a2 (mN mo))) [2] u_Mo_Ar2) rfl hl.1 rfl (Nat.le_of_ble_eq_true rfl) dX9_cheapest_56 ⟨Nat.le_refl _, Nat.le_refl _⟩ ?_
          refine lv_iload_n hx hb dX9_cheapest_59 rfl (lv_at hl 1 rfl) ?_
          refine lv_icmp_ne (tgt := 93) hx hb dX9_cheapest_60 (by decide) (fun c_3 => ?_) (fun c_3 => ?_)
          · skip
            refine lv_iconst (v := (0 : Int32)) hx hb dX9_cheapest_93 (by decide) ?_
            refine lv_istore (lv' := [(5, .int (0 : Int32)), (0, .ref a0), (1, .int x1), (2, .int x2), (3, .int be), (4, .int u)]) hx hb dX9_cheapest_94 hl (by decide) rfl (fun ls hl => ?_)
            refine lv_iload hx hb dX9_cheapest_96 (lv_at hl 0 rfl) ?_
            refine lv_if_eq (tgt := 131) hx hb dX9_cheapest_98 (by decide) (fun _ => ?_) (fun c => absurd (by decide) c)
            refine lv_iload_n hx hb dX9_cheapest_131 rfl (lv_at hl 4 rfl) ?_
            refine lv_istore_n (lv' := [(3, .int be), (5, .int (0 : Int32)), (0, .ref a0), (1, .int x1), (2, .int x2), (4, .int u)]) hx hb dX9_cheapest_132 rfl hl (by decide) rfl (fun ls hl => ?_)
            refine lv_iinc (v := (u + (1 : Int32))) (lv' := [(4, .int (u + (1 : Int32))), (3, .int be), (5, .int (0 : Int32)), (0, .ref a0), (1, .int x1), (2, .int x2)]) hx hb dX9_cheapest_133 hl (k := 5) rfl rfl (by decide) rfl (fun ls hl => ?_)
            refine lv_goto (tgt := 33) hx hb dX9_cheapest_136 (by decide) ?_
            exact ih  be (u + (1 : Int32)) (lp_up h0 c_1) hf (lp_dec h0 c_1 hm) (by rw [← hQ, m_X9_cheapest_L33, if_neg c_1, if_neg c_2, if_neg c_3]) H locs hP hD hS ls (lv_sub hl [3, 4, 5, 1, 0] rfl)
          · skip
            refine lv_aload_n hx hb dX9_cheapest_63 rfl (lv_at hl 0 rfl) ?_
            refine va_get (D := D) (ci := 7) (v := .ref a2) (C := RX9) (T := TX9) (N := 11) hx hb hts in_X9 hown hG.1 hP 0 g_Mo_0 rfl 3 (by decide) k_0 (fun _ h9 => h9) rfl dX9_cheapest_64 ?_
            refine lv_iload hx hb dX9_cheapest_67 (lv_at hl 4 rfl) ?_
            refine roS (wc := (wAr cy a2 (mN mo))) (As := [.ref a2, .int u]) (rest := []) (c_X9_isFree l D cy a2 (mN mo) u (iv_loop (M := 16) (h := 15) h0 c_1 ((rk_many hM).2) (by decide))) hCF gX9_cheapest_X9_isFree rfl hd_X9_isFree ⟨rfl, rfl, Nat.le_of_ble_eq_true rfl, Nat.le_of_ble_eq_true rfl⟩ hG (hP.sub (ws' := (wAr cy a2 (mN mo))) [2] u_Mo_Ar2) rfl hl.1 rfl (Nat.le_of_ble_eq_true rfl) dX9_cheapest_69 ⟨Nat.le_refl _, Nat.le_refl _⟩ ?_
            refine lv_if_eq (tgt := 93) hx hb dX9_cheapest_72 (by decide) (fun c_4 => ?_) (fun c_4 => ?_)
            · skip
              refine lv_iconst (v := (0 : Int32)) hx hb dX9_cheapest_93 (by decide) ?_
              refine lv_istore (lv' := [(5, .int (0 : Int32)), (0, .ref a0), (1, .int x1), (2, .int x2), (3, .int be), (4, .int u)]) hx hb dX9_cheapest_94 hl (by decide) rfl (fun ls hl => ?_)
              refine lv_iload hx hb dX9_cheapest_96 (lv_at hl 0 rfl) ?_
              refine lv_if_eq (tgt := 131) hx hb dX9_cheapest_98 (by decide) (fun _ => ?_) (fun c => absurd (by decide) c)
              refine lv_iload_n hx hb dX9_cheapest_131 rfl (lv_at hl 4 rfl) ?_
              refine lv_istore_n (lv' := [(3, .int be), (5, .int (0 : Int32)), (0, .ref a0), (1, .int x1), (2, .int x2), (4, .int u)]) hx hb dX9_cheapest_132 rfl hl (by decide) rfl (fun ls hl => ?_)
              refine lv_iinc (v := (u + (1 : Int32))) (lv' := [(4, .int (u + (1 : Int32))), (3, .int be), (5, .int (0 : Int32)), (0, .ref a0), (1, .int x1), (2, .int x2)]) hx hb dX9_cheapest_133 hl (k := 5) rfl rfl (by decide) rfl (fun ls hl => ?_)
              refine lv_goto (tgt := 33) hx hb dX9_cheapest_136 (by decide) ?_
              exact ih  be (u + (1 : Int32)) (lp_up h0 c_1) hf (lp_dec h0 c_1 hm) (by rw [← hQ, m_X9_cheapest_L33, if_neg c_1, if_neg c_2, if_pos c_3, if_pos c_4]) H locs hP hD hS ls (lv_sub hl [3, 4, 5, 1, 0] rfl)
            · skip
              refine lv_aload_n hx hb dX9_cheapest_75 rfl (lv_at hl 0 rfl) ?_
              refine va_get (D := D) (ci := 7) (v := .ref a2) (C := RX9) (T := TX9) (N := 11) hx hb hts in_X9 hown hG.1 hP 0 g_Mo_0 rfl 3 (by decide) k_0 (fun _ h9 => h9) rfl dX9_cheapest_76 ?_
              refine lv_iload hx hb dX9_cheapest_79 (lv_at hl 4 rfl) ?_
              refine lv_iconst (v := (0 : Int32)) hx hb dX9_cheapest_81 (by decide) ?_
              refine roS (wc := (wAr cy a2 (mN mo))) (As := [.ref a2, .int u, .int (0 : Int32)]) (rest := []) (c_X9_of l D cy a2 (mN mo) u (0 : Int32) (iv_loop (M := 16) (h := 15) h0 c_1 ((rk_many hM).2) (by decide)) (iv_wide (l2 := 0) (h2 := 4) (iv_lit (v := 0) (by decide)) (by decide))) hCF gX9_cheapest_X9_of rfl hd_X9_of ⟨rfl, rfl, Nat.le_of_ble_eq_true rfl, Nat.le_of_ble_eq_true rfl⟩ hG (hP.sub (ws' := (wAr cy a2 (mN mo))) [2] u_Mo_Ar2) rfl hl.1 rfl (Nat.le_of_ble_eq_true rfl) dX9_cheapest_82 ⟨Nat.le_refl _, Nat.le_refl _⟩ ?_
              refine lv_iload_n hx hb dX9_cheapest_85 rfl (lv_at hl 2 rfl) ?_
              refine lv_icmp_ne (tgt := 93) hx hb dX9_cheapest_86 (by decide) (fun c_5 => ?_) (fun c_5 => ?_)
              · skip
                refine lv_iconst (v := (0 : Int32)) hx hb dX9_cheapest_93 (by decide) ?_
                refine lv_istore (lv' := [(5, .int (0 : Int32)), (0, .ref a0), (1, .int x1), (2, .int x2), (3, .int be), (4, .int u)]) hx hb dX9_cheapest_94 hl (by decide) rfl (fun ls hl => ?_)
                refine lv_iload hx hb dX9_cheapest_96 (lv_at hl 0 rfl) ?_
                refine lv_if_eq (tgt := 131) hx hb dX9_cheapest_98 (by decide) (fun _ => ?_) (fun c => absurd (by decide) c)
                refine lv_iload_n hx hb dX9_cheapest_131 rfl (lv_at hl 4 rfl) ?_
                refine lv_istore_n (lv' := [(3, .int be), (5, .int (0 : Int32)), (0, .ref a0), (1, .int x1), (2, .int x2), (4, .int u)]) hx hb dX9_cheapest_132 rfl hl (by decide) rfl (fun ls hl => ?_)
                refine lv_iinc (v := (u + (1 : Int32))) (lv' := [(4, .int (u + (1 : Int32))), (3, .int be), (5, .int (0 : Int32)), (0, .ref a0), (1, .int x1), (2, .int x2)]) hx hb dX9_cheapest_133 hl (k := 5) rfl rfl (by decide) rfl (fun ls hl => ?_)
                refine lv_goto (tgt := 33) hx hb dX9_cheapest_136 (by decide) ?_
                exact ih  be (u + (1 : Int32)) (lp_up h0 c_1) hf (lp_dec h0 c_1 hm) (by rw [← hQ, m_X9_cheapest_L33, if_neg c_1, if_neg c_2, if_pos c_3, if_neg c_4, if_neg c_5]) H locs hP hD hS ls (lv_sub hl [3, 4, 5, 1, 0] rfl)
              · skip
                refine lv_iconst (v := (1 : Int32)) hx hb dX9_cheapest_89 (by decide) ?_
                refine lv_goto (tgt := 94) hx hb dX9_cheapest_90 (by decide) ?_
                refine lv_istore (lv' := [(5, .int (1 : Int32)), (0, .ref a0), (1, .int x1), (2, .int x2), (3, .int be), (4, .int u)]) hx hb dX9_cheapest_94 hl (by decide) rfl (fun ls hl => ?_)
                refine lv_iload hx hb dX9_cheapest_96 (lv_at hl 0 rfl) ?_
                refine lv_if_eq (tgt := 131) hx hb dX9_cheapest_98 (by decide) (fun c => absurd c (by decide)) (fun _ => ?_)
                refine lv_iload_n hx hb dX9_cheapest_101 rfl (lv_at hl 4 rfl) ?_
                refine lv_iconst (v := (-1 : Int32)) hx hb dX9_cheapest_102 (by decide) ?_
                refine lv_icmp_eq (tgt := 126) hx hb dX9_cheapest_103 (by decide) (fun c_6 => ?_) (fun c_6 => ?_)
                · skip
                  refine lv_iload hx hb dX9_cheapest_126 (lv_at hl 5 rfl) ?_
                  refine lv_goto (tgt := 132) hx hb dX9_cheapest_128 (by decide) ?_
                  refine lv_istore_n (lv' := [(3, .int u), (5, .int (1 : Int32)), (0, .ref a0), (1, .int x1), (2, .int x2), (4, .int u)]) hx hb dX9_cheapest_132 rfl hl (by decide) rfl (fun ls hl => ?_)
                  refine lv_iinc (v := (u + (1 : Int32))) (lv' := [(4, .int (u + (1 : Int32))), (3, .int u), (5, .int (1 : Int32)), (0, .ref a0), (1, .int x1), (2, .int x2)]) hx hb dX9_cheapest_133 hl (k := 5) rfl rfl (by decide) rfl (fun ls hl => ?_)
                  refine lv_goto (tgt := 33) hx hb dX9_cheapest_136 (by decide) ?_
                  exact ih  u (u + (1 : Int32)) (lp_up h0 c_1) (Or.inr (iv_loop (M := 16) (h := 15) h0 c_1 ((rk_many hM).2) (by decide))) (lp_dec h0 c_1 hm) (by rw [← hQ, m_X9_cheapest_L33, if_neg c_1, if_neg c_2, if_pos c_3, if_neg c_4, if_pos c_5, if_pos c_6]) H locs hP hD hS ls (lv_sub hl [3, 4, 5, 1, 0] rfl)
                · skip
                  refine lv_aload_n hx hb dX9_cheapest_106 rfl (lv_at hl 1 rfl) ?_
                  refine va_get (D := D) (ci := 7) (v := .ref a2) (C := RX9) (T := TX9) (N := 11) hx hb hts in_X9 hown hG.1 hP 0 g_Mo_0 rfl 3 (by decide) k_0 (fun _ h9 => h9) rfl dX9_cheapest_107 ?_
                  refine lv_iload hx hb dX9_cheapest_110 (lv_at hl 5 rfl) ?_
                  refine roS (wc := (wAr cy a2 (mN mo))) (As := [.ref a2, .int u]) (rest := []) (c_X9_priceOf l D cy a2 (mN mo) u (iv_loop (M := 16) (h := 15) h0 c_1 ((rk_many hM).2) (by decide))) hCF gX9_cheapest_X9_priceOf rfl hd_X9_priceOf ⟨rfl, rfl, Nat.le_of_ble_eq_true rfl, Nat.le_of_ble_eq_true rfl⟩ hG (hP.sub (ws' := (wAr cy a2 (mN mo))) [2] u_Mo_Ar2) rfl hl.1 rfl (Nat.le_of_ble_eq_true rfl) dX9_cheapest_112 ⟨Nat.le_refl _, Nat.le_refl _⟩ ?_
                  refine lv_aload_n hx hb dX9_cheapest_115 rfl (lv_at hl 1 rfl) ?_
                  refine va_get (D := D) (ci := 7) (v := .ref a2) (C := RX9) (T := TX9) (N := 11) hx hb hts in_X9 hown hG.1 hP 0 g_Mo_0 rfl 3 (by decide) k_0 (fun _ h9 => h9) rfl dX9_cheapest_116 ?_
                  refine lv_iload_n hx hb dX9_cheapest_119 rfl (lv_at hl 4 rfl) ?_
                  refine roS (wc := (wAr cy a2 (mN mo))) (As := [.ref a2, .int be]) (rest := [.int (m_X9_priceOf (mN mo) u)]) (c_X9_priceOf l D cy a2 (mN mo) be (hf.resolve_left c_6)) hCF gX9_cheapest_X9_priceOf rfl hd_X9_priceOf ⟨rfl, rfl, Nat.le_of_ble_eq_true rfl, Nat.le_of_ble_eq_true rfl⟩ hG (hP.sub (ws' := (wAr cy a2 (mN mo))) [2] u_Mo_Ar2) rfl hl.1 rfl (Nat.le_of_ble_eq_true rfl) dX9_cheapest_120 ⟨Nat.le_refl _, Nat.le_refl _⟩ ?_
                  refine lv_icmp_ge (tgt := 131) hx hb dX9_cheapest_123 (by decide) (fun c_7 => ?_) (fun c_7 => ?_)
                  · skip
                    refine lv_iload_n hx hb dX9_cheapest_131 rfl (lv_at hl 4 rfl) ?_
                    refine lv_istore_n (lv' := [(3, .int be), (5, .int (1 : Int32)), (0, .ref a0), (1, .int x1), (2, .int x2), (4, .int u)]) hx hb dX9_cheapest_132 rfl hl (by decide) rfl (fun ls hl => ?_)
                    refine lv_iinc (v := (u + (1 : Int32))) (lv' := [(4, .int (u + (1 : Int32))), (3, .int be), (5, .int (1 : Int32)), (0, .ref a0), (1, .int x1), (2, .int x2)]) hx hb dX9_cheapest_133 hl (k := 5) rfl rfl (by decide) rfl (fun ls hl => ?_)
                    refine lv_goto (tgt := 33) hx hb dX9_cheapest_136 (by decide) ?_
                    exact ih  be (u + (1 : Int32)) (lp_up h0 c_1) hf (lp_dec h0 c_1 hm) (by rw [← hQ, m_X9_cheapest_L33, if_neg c_1, if_neg c_2, if_pos c_3, if_neg c_4, if_pos c_5, if_neg c_6, if_pos c_7]) H locs hP hD hS ls (lv_sub hl [3, 4, 5, 1, 0] rfl)
                  · skip
                    refine lv_iload hx hb dX9_cheapest_126 (lv_at hl 5 rfl) ?_
                    refine lv_goto (tgt := 132) hx hb dX9_cheapest_128 (by decide) ?_
                    refine lv_istore_n (lv' := [(3, .int u), (5, .int (1 : Int32)), (0, .ref a0), (1, .int x1), (2, .int x2), (4, .int u)]) hx hb dX9_cheapest_132 rfl hl (by decide) rfl (fun ls hl => ?_)
                    refine lv_iinc (v := (u + (1 : Int32))) (lv' := [(4, .int (u + (1 : Int32))), (3, .int u), (5, .int (1 : Int32)), (0, .ref a0), (1, .int x1), (2, .int x2)]) hx hb dX9_cheapest_133 hl (k := 5) rfl rfl (by decide) rfl (fun ls hl => ?_)
                    refine lv_goto (tgt := 33) hx hb dX9_cheapest_136 (by decide) ?_
                    exact ih  u (u + (1 : Int32)) (lp_up h0 c_1) (Or.inr (iv_loop (M := 16) (h := 15) h0 c_1 ((rk_many hM).2) (by decide))) (lp_dec h0 c_1 hm) (by rw [← hQ, m_X9_cheapest_L33, if_neg c_1, if_neg c_2, if_pos c_3, if_neg c_4, if_pos c_5, if_neg c_6, if_neg c_7]) H locs hP hD hS ls (lv_sub hl [3, 4, 5, 1, 0] rfl)
  refine lv_aload_n hx hb dX9_cheapest_0 rfl (lv_at hl 0 rfl) ?_
  refine lv_iload_n hx hb dX9_cheapest_1 rfl (lv_at hl 1 rfl) ?_
  refine roS (wc := ([] : va_W)) (As := [.int x1]) (rest := [.ref a0]) (c_X9_isHolder l D cy x1) hCF gX9_cheapest_X9_isHolder rfl hd_X9_isHolder ⟨rfl, rfl, Nat.le_of_ble_eq_true rfl, Nat.le_of_ble_eq_true rfl⟩ hG va_P_nil rfl hl.1 rfl (Nat.le_of_ble_eq_true rfl) dX9_cheapest_2 ⟨Nat.le_refl _, Nat.le_refl _⟩ ?_
  refine lv_if_eq (tgt := 19) hx hb dX9_cheapest_5 (by decide) (fun c_8 => ?_) (fun c_8 => ?_)
  · skip
    refine lv_iconst (v := (1 : Int32)) hx hb dX9_cheapest_19 (by decide) ?_
    refine muV (A0 := A) (wc := (wMo cy a0 a1 a2 a3 a4 a5 a6 mo)) (As := [.int (1 : Int32)]) (rest := []) (c_X9_refused l D cy a0 a1 a2 a3 a4 a5 a6 mo (1 : Int32)) hCF gX9_cheapest_X9_refused rfl hd_X9_refused ⟨rfl, rfl, Nat.le_of_ble_eq_true rfl, Nat.le_of_ble_eq_true rfl⟩ hG hP hD hS hA [0, 1, 2, 3, 4, 5, 6] rfl c_Mo_Mo h_Mo (ci := 7) rfl rfl g_Mo_0 rfl hl.1 rfl (Nat.le_of_ble_eq_true rfl) dX9_cheapest_20 ⟨Nat.le_refl _, Nat.le_refl _⟩ (fun H locs hP hD hS => ?_)
    have hP : va_P D vwCl (wMo cy a0 a1 a2 a3 a4 a5 a6 (mR' mo (1 : Int32))) H := va_P_eq hP r_Mo_Mo
    have hD : va_D A (wMo cy a0 a1 a2 a3 a4 a5 a6 (mR' mo (1 : Int32))) := va_D_eq hD r_Mo_Mo
    refine lv_if_eq (tgt := 28) hx hb dX9_cheapest_23 (by decide) (fun c => absurd c (rf_lit1 _)) (fun _ => ?_)
    refine lv_iconst (v := (0 : Int32)) hx hb dX9_cheapest_26 (by decide) ?_
    exact mu_iret hx hb hr hlocks hP hS dX9_cheapest_27 (by rw [m_X9_cheapest, if_pos c_8]) (by rw [m_X9_cheapest, if_pos c_8])
  · skip
    refine lv_iload_n hx hb dX9_cheapest_8 rfl (lv_at hl 2 rfl) ?_
    refine roS (wc := ([] : va_W)) (As := [.int x2]) (rest := [.ref a0]) (c_X9_isKind l D cy x2) hCF gX9_cheapest_X9_isKind rfl hd_X9_isKind ⟨rfl, rfl, Nat.le_of_ble_eq_true rfl, Nat.le_of_ble_eq_true rfl⟩ hG va_P_nil rfl hl.1 rfl (Nat.le_of_ble_eq_true rfl) dX9_cheapest_9 ⟨Nat.le_refl _, Nat.le_refl _⟩ ?_
    refine lv_if_eq (tgt := 19) hx hb dX9_cheapest_12 (by decide) (fun c_9 => ?_) (fun c_9 => ?_)
    · skip
      refine lv_iconst (v := (1 : Int32)) hx hb dX9_cheapest_19 (by decide) ?_
      refine muV (A0 := A) (wc := (wMo cy a0 a1 a2 a3 a4 a5 a6 mo)) (As := [.int (1 : Int32)]) (rest := []) (c_X9_refused l D cy a0 a1 a2 a3 a4 a5 a6 mo (1 : Int32)) hCF gX9_cheapest_X9_refused rfl hd_X9_refused ⟨rfl, rfl, Nat.le_of_ble_eq_true rfl, Nat.le_of_ble_eq_true rfl⟩ hG hP hD hS hA [0, 1, 2, 3, 4, 5, 6] rfl c_Mo_Mo h_Mo (ci := 7) rfl rfl g_Mo_0 rfl hl.1 rfl (Nat.le_of_ble_eq_true rfl) dX9_cheapest_20 ⟨Nat.le_refl _, Nat.le_refl _⟩ (fun H locs hP hD hS => ?_)
      have hP : va_P D vwCl (wMo cy a0 a1 a2 a3 a4 a5 a6 (mR' mo (1 : Int32))) H := va_P_eq hP r_Mo_Mo
      have hD : va_D A (wMo cy a0 a1 a2 a3 a4 a5 a6 (mR' mo (1 : Int32))) := va_D_eq hD r_Mo_Mo
      refine lv_if_eq (tgt := 28) hx hb dX9_cheapest_23 (by decide) (fun c => absurd c (rf_lit1 _)) (fun _ => ?_)
      refine lv_iconst (v := (0 : Int32)) hx hb dX9_cheapest_26 (by decide) ?_
      exact mu_iret hx hb hr hlocks hP hS dX9_cheapest_27 (by rw [m_X9_cheapest, if_neg c_8, if_pos c_9]) (by rw [m_X9_cheapest, if_neg c_8, if_pos c_9])
    · skip
      refine lv_iconst (v := (0 : Int32)) hx hb dX9_cheapest_15 (by decide) ?_
      refine lv_goto (tgt := 20) hx hb dX9_cheapest_16 (by decide) ?_
      refine muV (A0 := A) (wc := (wMo cy a0 a1 a2 a3 a4 a5 a6 mo)) (As := [.int (0 : Int32)]) (rest := []) (c_X9_refused l D cy a0 a1 a2 a3 a4 a5 a6 mo (0 : Int32)) hCF gX9_cheapest_X9_refused rfl hd_X9_refused ⟨rfl, rfl, Nat.le_of_ble_eq_true rfl, Nat.le_of_ble_eq_true rfl⟩ hG hP hD hS hA [0, 1, 2, 3, 4, 5, 6] rfl c_Mo_Mo h_Mo (ci := 7) rfl rfl g_Mo_0 rfl hl.1 rfl (Nat.le_of_ble_eq_true rfl) dX9_cheapest_20 ⟨Nat.le_refl _, Nat.le_refl _⟩ (fun H locs hP hD hS => ?_)
      have hP : va_P D vwCl (wMo cy a0 a1 a2 a3 a4 a5 a6 (mR' mo (0 : Int32))) H := va_P_eq hP r_Mo_Mo
      have hD : va_D A (wMo cy a0 a1 a2 a3 a4 a5 a6 (mR' mo (0 : Int32))) := va_D_eq hD r_Mo_Mo
      refine lv_if_eq (tgt := 28) hx hb dX9_cheapest_23 (by decide) (fun _ => ?_) (fun c => absurd (rf_lit0 _) c)
      refine lv_iconst (v := (-1 : Int32)) hx hb dX9_cheapest_28 (by decide) ?_
      refine lv_istore_n (lv' := [(3, .int (-1 : Int32)), (0, .ref a0), (1, .int x1), (2, .int x2)]) hx hb dX9_cheapest_29 rfl hl (by decide) rfl (fun ls hl => ?_)
      refine lv_iconst (v := (0 : Int32)) hx hb dX9_cheapest_30 (by decide) ?_
      refine lv_istore (lv' := [(4, .int (0 : Int32)), (3, .int (-1 : Int32)), (0, .ref a0), (1, .int x1), (2, .int x2)]) hx hb dX9_cheapest_31 hl (by decide) rfl (fun ls hl => ?_)
      exact L_33 100 (-1 : Int32) (0 : Int32) (by decide) (Or.inl rfl) (lp_init (M := 16) (rk_many hM).2 (by decide)) (by rw [m_X9_cheapest, if_neg c_8, if_neg c_9]) H locs hP hD hS ls (lv_sub hl [2, 3, 4, 1, 0] rfl)
def m_X9_save (mo : MoT) (x1 : Int32) : Int32 × MoT := if (m_X9_in x1.toInt64 (0 : Int64) (1 : Int64)) = (0 : Int32) then ((0 : Int32), mR' mo (1 : Int32)) else ((mN mo) (1 : Int32).toNatClampNeg, mI' (mK' (mR' mo (0 : Int32)) (m_X9_copyState (mN mo) (mK mo) (0 : Int32) ((383 : Int32) * x1))) (upd (mI mo) x1.toNatClampNeg (1 : Int32)))
theorem hd_X9_save : yX9_save.cls = RX9 ∧ yX9_save.cls ≠ "java/lang/invoke/MethodHandle" ∧ yX9_save.cls ≠ "java/lang/invoke/VarHandle" ∧ (parseMethodDescriptor yX9_save.desc).map (fun d => d.parameters.length) = some 1 := by decide +kernel
set_option maxHeartbeats 8000000 in
set_option maxRecDepth 20000 in
theorem c_X9_save (l : Launch) (D : va_G) (cy : Nat → ClassId) (a0 a1 a2 a3 a4 a5 a6 : Nat) (mo : MoT) (x1 : Int32) : MU l D cy yX9_save wsX9_save ({ frames := 1, cells := 0, slots := 0, locals := 25 } : Room) (wMo cy a0 a1 a2 a3 a4 a5 a6 mo) (wMo cy a0 a1 a2 a3 a4 a5 a6 (m_X9_save mo x1).2) [.ref a0, .int x1] (m_X9_save mo x1).1 := by
  refine MU.body (by decide) rfl (Nat.le_of_ble_eq_true rfl) ?_
  intro p e s m below meth c hx hb hml hr hts hown hlocks hP hG ls hl A hD hA hS
  have hl : lv_has ls 2 [(0, .ref a0), (1, .int x1)] := hl
  have hCF : CallFix p m c cX9_save 2 s ([.ref a0, .int x1] : List Value).toArray wsX9_save RX9 := ⟨hx, hb, hml, hown, hts⟩
  have in_X9 : ∀ w ∈ u_ws RX9 TX9 11, w ∈ wsX9_save := fun _ h => List.mem_cons_of_mem _ (List.mem_append_right _ h)
  have k_0 := hts (Cond.fieldLink RX9 13 "SparePoolModel" "now" "[I") (List.mem_of_getElem? (i := 1) rfl)
  have k_1 := hts (Cond.fieldLink RX9 22 "SparePoolModel" "kept" "[I") (List.mem_of_getElem? (i := 2) rfl)
  have k_2 := hts (Cond.fieldLink RX9 25 "SparePoolModel" "isKept" "[Z") (List.mem_of_getElem? (i := 3) rfl)
  have hP : va_P D vwCl (wMo cy a0 a1 a2 a3 a4 a5 a6 mo) s.heap := hP
  refine lv_aload_n hx hb dX9_save_0 rfl (lv_at hl 0 rfl) ?_
  refine lv_iload_n hx hb dX9_save_1 rfl (lv_at hl 1 rfl) ?_
  refine lv_i2l hx hb dX9_save_2 rfl ?_
  refine lv_lconst (v := (0 : Int64)) hx hb dX9_save_3 (by decide) ?_
  refine lv_lconst (v := (1 : Int64)) hx hb dX9_save_4 (by decide) ?_
  refine roS (wc := ([] : va_W)) (As := [.long x1.toInt64, .long (0 : Int64), .long (1 : Int64)]) (rest := [.ref a0]) (c_X9_in l D cy x1.toInt64 (0 : Int64) (1 : Int64)) hCF gX9_save_X9_in rfl hd_X9_in ⟨rfl, rfl, Nat.le_of_ble_eq_true rfl, Nat.le_of_ble_eq_true rfl⟩ hG va_P_nil rfl hl.1 rfl (Nat.le_of_ble_eq_true rfl) dX9_save_5 ⟨Nat.le_refl _, Nat.le_refl _⟩ ?_
  refine lv_if_eq (tgt := 15) hx hb dX9_save_8 (by decide) (fun c_1 => ?_) (fun c_1 => ?_)
  · skip
    refine lv_iconst (v := (1 : Int32)) hx hb dX9_save_15 (by decide) ?_
    refine muV (A0 := A) (wc := (wMo cy a0 a1 a2 a3 a4 a5 a6 mo)) (As := [.int (1 : Int32)]) (rest := []) (c_X9_refused l D cy a0 a1 a2 a3 a4 a5 a6 mo (1 : Int32)) hCF gX9_save_X9_refused rfl hd_X9_refused ⟨rfl, rfl, Nat.le_of_ble_eq_true rfl, Nat.le_of_ble_eq_true rfl⟩ hG hP hD hS hA [0, 1, 2, 3, 4, 5, 6] rfl c_Mo_Mo h_Mo (ci := 7) rfl rfl g_Mo_0 rfl hl.1 rfl (Nat.le_of_ble_eq_true rfl) dX9_save_16 ⟨Nat.le_refl _, Nat.le_refl _⟩ (fun H locs hP hD hS => ?_)
    have hP : va_P D vwCl (wMo cy a0 a1 a2 a3 a4 a5 a6 (mR' mo (1 : Int32))) H := va_P_eq hP r_Mo_Mo
    have hD : va_D A (wMo cy a0 a1 a2 a3 a4 a5 a6 (mR' mo (1 : Int32))) := va_D_eq hD r_Mo_Mo
    refine lv_if_eq (tgt := 24) hx hb dX9_save_19 (by decide) (fun c => absurd c (rf_lit1 _)) (fun _ => ?_)
    refine lv_iconst (v := (0 : Int32)) hx hb dX9_save_22 (by decide) ?_
    exact mu_iret hx hb hr hlocks hP hS dX9_save_23 (by rw [m_X9_save, if_pos c_1]) (by rw [m_X9_save, if_pos c_1])
  · skip
    refine lv_iconst (v := (0 : Int32)) hx hb dX9_save_11 (by decide) ?_
    refine lv_goto (tgt := 16) hx hb dX9_save_12 (by decide) ?_
    refine muV (A0 := A) (wc := (wMo cy a0 a1 a2 a3 a4 a5 a6 mo)) (As := [.int (0 : Int32)]) (rest := []) (c_X9_refused l D cy a0 a1 a2 a3 a4 a5 a6 mo (0 : Int32)) hCF gX9_save_X9_refused rfl hd_X9_refused ⟨rfl, rfl, Nat.le_of_ble_eq_true rfl, Nat.le_of_ble_eq_true rfl⟩ hG hP hD hS hA [0, 1, 2, 3, 4, 5, 6] rfl c_Mo_Mo h_Mo (ci := 7) rfl rfl g_Mo_0 rfl hl.1 rfl (Nat.le_of_ble_eq_true rfl) dX9_save_16 ⟨Nat.le_refl _, Nat.le_refl _⟩ (fun H locs hP hD hS => ?_)
    have hP : va_P D vwCl (wMo cy a0 a1 a2 a3 a4 a5 a6 (mR' mo (0 : Int32))) H := va_P_eq hP r_Mo_Mo
    have hD : va_D A (wMo cy a0 a1 a2 a3 a4 a5 a6 (mR' mo (0 : Int32))) := va_D_eq hD r_Mo_Mo
    refine lv_if_eq (tgt := 24) hx hb dX9_save_19 (by decide) (fun _ => ?_) (fun c => absurd (rf_lit0 _) c)
    refine lv_aload_n hx hb dX9_save_24 rfl (lv_at hl 0 rfl) ?_
    refine va_get (D := D) (ci := 7) (v := .ref a2) (C := RX9) (T := TX9) (N := 11) hx hb hts in_X9 hown hG.1 hP 0 g_Mo_0 rfl 3 (by decide) k_0 (fun _ h9 => h9) rfl dX9_save_25 ?_
    refine lv_iconst (v := (0 : Int32)) hx hb dX9_save_28 (by decide) ?_
    refine lv_aload_n hx hb dX9_save_29 rfl (lv_at hl 0 rfl) ?_
    refine va_get (D := D) (ci := 7) (v := .ref a5) (C := RX9) (T := TX9) (N := 11) hx hb hts in_X9 hown hG.1 hP 0 g_Mo_0 rfl 7 (by decide) k_1 (fun _ h9 => h9) rfl dX9_save_30 ?_
    refine lv_sipush (v := (383 : Int32)) hx hb dX9_save_33 (by decide) ?_
    refine lv_iload_n hx hb dX9_save_36 rfl (lv_at hl 1 rfl) ?_
    refine lv_imul hx hb dX9_save_37 ?_
    refine mvS (A0 := A) (wc := (wCp cy a2 a5 383 766 (mN mo) (mK mo))) (As := [.ref a2, .int (0 : Int32), .ref a5, .int ((383 : Int32) * x1)]) (rest := []) (c_X9_copyState l D cy a2 a5 383 766 (mN mo) (mK mo) (0 : Int32) ((383 : Int32) * x1) (cp_iv (iv_lit (v := 0) (by decide)) (by decide)) (cp_iv (iv_mul (l := 0) (h := 383) (iv_lit (v := 383) (by decide)) (iv_min (lo := 0) (hi := 1) c_1) (by decide)) (by decide))) hCF gX9_save_X9_copyState rfl hd_X9_copyState ⟨rfl, rfl, Nat.le_of_ble_eq_true rfl, Nat.le_of_ble_eq_true rfl⟩ hG hP hD hS hA [2, 5] rfl c_Mo_Cp25 h_Cp rfl hl.1 rfl (Nat.le_of_ble_eq_true rfl) dX9_save_38 ⟨Nat.le_refl _, Nat.le_refl _⟩ (fun H locs hP hD hS => ?_)
    have hP : va_P D vwCl (wMo cy a0 a1 a2 a3 a4 a5 a6 (mK' (mR' mo (0 : Int32)) (m_X9_copyState (mN mo) (mK mo) (0 : Int32) ((383 : Int32) * x1)))) H := va_P_eq hP r_Mo_Cp25
    have hD : va_D A (wMo cy a0 a1 a2 a3 a4 a5 a6 (mK' (mR' mo (0 : Int32)) (m_X9_copyState (mN mo) (mK mo) (0 : Int32) ((383 : Int32) * x1)))) := va_D_eq hD r_Mo_Cp25
    refine lv_aload_n hx hb dX9_save_41 rfl (lv_at hl 0 rfl) ?_
    refine va_get (D := D) (ci := 7) (v := .ref a6) (C := RX9) (T := TX9) (N := 11) hx hb hts in_X9 hown hG.1 hP 0 g_Mo_0 rfl 8 (by decide) k_2 (fun _ h9 => h9) rfl dX9_save_42 ?_
    refine lv_iload_n hx hb dX9_save_45 rfl (lv_at hl 1 rfl) ?_
    refine lv_iconst (v := (1 : Int32)) hx hb dX9_save_46 (by decide) ?_
    refine va_zast hx hb hG.1 hP hD hS 6 1 (n := 2) (f := (mI mo)) g_Mo_6 rfl (iv_in (iv_min (lo := 0) (hi := 1) c_1) (by decide) (by decide)) dX9_save_47 (fun H locs hP hD hS => ?_)
    have hP : va_P D vwCl (wMo cy a0 a1 a2 a3 a4 a5 a6 (mI' (mK' (mR' mo (0 : Int32)) (m_X9_copyState (mN mo) (mK mo) (0 : Int32) ((383 : Int32) * x1))) (upd (mI mo) x1.toNatClampNeg (1 : Int32)))) H := va_P_eq hP s_Mo_6
    have hD : va_D A (wMo cy a0 a1 a2 a3 a4 a5 a6 (mI' (mK' (mR' mo (0 : Int32)) (m_X9_copyState (mN mo) (mK mo) (0 : Int32) ((383 : Int32) * x1))) (upd (mI mo) x1.toNatClampNeg (1 : Int32)))) := va_D_eq hD s_Mo_6
    refine lv_aload_n hx hb dX9_save_48 rfl (lv_at hl 0 rfl) ?_
    refine va_get (D := D) (ci := 7) (v := .ref a2) (C := RX9) (T := TX9) (N := 11) hx hb hts in_X9 hown hG.1 hP 0 g_Mo_0 rfl 3 (by decide) k_0 (fun _ h9 => h9) rfl dX9_save_49 ?_
    refine lv_iconst (v := (1 : Int32)) hx hb dX9_save_52 (by decide) ?_
    refine va_iald hx hb hG.1 hP 2 0 (n := 383) (f := (mN mo)) g_Mo_2 rfl (bd_of (by decide) (by decide)) dX9_save_53 ?_
    exact mu_iret hx hb hr hlocks hP hS dX9_save_54 (by rw [m_X9_save, if_neg c_1]) (by rw [m_X9_save, if_neg c_1])
def m_X9_restore (mo : MoT) (x1 : Int32) : Int32 × MoT := if (m_X9_in x1.toInt64 (0 : Int64) (1 : Int64)) = (0 : Int32) then ((0 : Int32), mR' mo (1 : Int32)) else if ((mI mo) x1.toNatClampNeg) = (0 : Int32) then ((0 : Int32), mR' mo (2 : Int32)) else ((m_X9_copyState (mK mo) (mN mo) ((383 : Int32) * x1) (0 : Int32)) (1 : Int32).toNatClampNeg, mA' (mN' (mR' mo (0 : Int32)) (m_X9_copyState (mK mo) (mN mo) ((383 : Int32) * x1) (0 : Int32))) (0 : Int32))
theorem hd_X9_restore : yX9_restore.cls = RX9 ∧ yX9_restore.cls ≠ "java/lang/invoke/MethodHandle" ∧ yX9_restore.cls ≠ "java/lang/invoke/VarHandle" ∧ (parseMethodDescriptor yX9_restore.desc).map (fun d => d.parameters.length) = some 1 := by decide +kernel
set_option maxHeartbeats 8000000 in
set_option maxRecDepth 20000 in
theorem c_X9_restore (l : Launch) (D : va_G) (cy : Nat → ClassId) (a0 a1 a2 a3 a4 a5 a6 : Nat) (mo : MoT) (x1 : Int32) : MU l D cy yX9_restore wsX9_restore ({ frames := 1, cells := 0, slots := 0, locals := 25 } : Room) (wMo cy a0 a1 a2 a3 a4 a5 a6 mo) (wMo cy a0 a1 a2 a3 a4 a5 a6 (m_X9_restore mo x1).2) [.ref a0, .int x1] (m_X9_restore mo x1).1 := by
  refine MU.body (by decide) rfl (Nat.le_of_ble_eq_true rfl) ?_
  intro p e s m below meth c hx hb hml hr hts hown hlocks hP hG ls hl A hD hA hS
  have hl : lv_has ls 2 [(0, .ref a0), (1, .int x1)] := hl
  have hCF : CallFix p m c cX9_restore 2 s ([.ref a0, .int x1] : List Value).toArray wsX9_restore RX9 := ⟨hx, hb, hml, hown, hts⟩
  have in_X9 : ∀ w ∈ u_ws RX9 TX9 11, w ∈ wsX9_restore := fun _ h => List.mem_cons_of_mem _ (List.mem_append_right _ h)
  have k_0 := hts (Cond.fieldLink RX9 25 "SparePoolModel" "isKept" "[Z") (List.mem_of_getElem? (i := 1) rfl)
  have k_1 := hts (Cond.fieldLink RX9 22 "SparePoolModel" "kept" "[I") (List.mem_of_getElem? (i := 2) rfl)
  have k_2 := hts (Cond.fieldLink RX9 13 "SparePoolModel" "now" "[I") (List.mem_of_getElem? (i := 3) rfl)
  have k_3 := hts (Cond.fieldLink RX9 201 "SparePoolModel" "acts" "I") (List.mem_of_getElem? (i := 4) rfl)
  have hP : va_P D vwCl (wMo cy a0 a1 a2 a3 a4 a5 a6 mo) s.heap := hP
  refine lv_aload_n hx hb dX9_restore_0 rfl (lv_at hl 0 rfl) ?_
  refine lv_iload_n hx hb dX9_restore_1 rfl (lv_at hl 1 rfl) ?_
  refine lv_i2l hx hb dX9_restore_2 rfl ?_
  refine lv_lconst (v := (0 : Int64)) hx hb dX9_restore_3 (by decide) ?_
  refine lv_lconst (v := (1 : Int64)) hx hb dX9_restore_4 (by decide) ?_
  refine roS (wc := ([] : va_W)) (As := [.long x1.toInt64, .long (0 : Int64), .long (1 : Int64)]) (rest := [.ref a0]) (c_X9_in l D cy x1.toInt64 (0 : Int64) (1 : Int64)) hCF gX9_restore_X9_in rfl hd_X9_in ⟨rfl, rfl, Nat.le_of_ble_eq_true rfl, Nat.le_of_ble_eq_true rfl⟩ hG va_P_nil rfl hl.1 rfl (Nat.le_of_ble_eq_true rfl) dX9_restore_5 ⟨Nat.le_refl _, Nat.le_refl _⟩ ?_
  refine lv_if_ne (tgt := 15) hx hb dX9_restore_8 (by decide) (fun c_1 => ?_) (fun c_1 => ?_)
  · skip
    refine lv_aload_n hx hb dX9_restore_15 rfl (lv_at hl 0 rfl) ?_
    refine va_get (D := D) (ci := 7) (v := .ref a6) (C := RX9) (T := TX9) (N := 11) hx hb hts in_X9 hown hG.1 hP 0 g_Mo_0 rfl 8 (by decide) k_0 (fun _ h9 => h9) rfl dX9_restore_16 ?_
    refine lv_iload_n hx hb dX9_restore_19 rfl (lv_at hl 1 rfl) ?_
    refine va_zald hx hb hG.1 hP 6 1 (n := 2) (f := (mI mo)) g_Mo_6 rfl (iv_in (iv_min (lo := 0) (hi := 1) c_1) (by decide) (by decide)) dX9_restore_20 ?_
    refine lv_if_ne (tgt := 28) hx hb dX9_restore_21 (by decide) (fun c_2 => ?_) (fun c_2 => ?_)
    · skip
      refine lv_iconst (v := (0 : Int32)) hx hb dX9_restore_28 (by decide) ?_
      refine muV (A0 := A) (wc := (wMo cy a0 a1 a2 a3 a4 a5 a6 mo)) (As := [.int (0 : Int32)]) (rest := []) (c_X9_refused l D cy a0 a1 a2 a3 a4 a5 a6 mo (0 : Int32)) hCF gX9_restore_X9_refused rfl hd_X9_refused ⟨rfl, rfl, Nat.le_of_ble_eq_true rfl, Nat.le_of_ble_eq_true rfl⟩ hG hP hD hS hA [0, 1, 2, 3, 4, 5, 6] rfl c_Mo_Mo h_Mo (ci := 7) rfl rfl g_Mo_0 rfl hl.1 rfl (Nat.le_of_ble_eq_true rfl) dX9_restore_29 ⟨Nat.le_refl _, Nat.le_refl _⟩ (fun H locs hP hD hS => ?_)
      have hP : va_P D vwCl (wMo cy a0 a1 a2 a3 a4 a5 a6 (mR' mo (0 : Int32))) H := va_P_eq hP r_Mo_Mo
      have hD : va_D A (wMo cy a0 a1 a2 a3 a4 a5 a6 (mR' mo (0 : Int32))) := va_D_eq hD r_Mo_Mo
      refine lv_if_eq (tgt := 37) hx hb dX9_restore_32 (by decide) (fun _ => ?_) (fun c => absurd (rf_lit0 _) c)
      refine lv_aload_n hx hb dX9_restore_37 rfl (lv_at hl 0 rfl) ?_
      refine va_get (D := D) (ci := 7) (v := .ref a5) (C := RX9) (T := TX9) (N := 11) hx hb hts in_X9 hown hG.1 hP 0 g_Mo_0 rfl 7 (by decide) k_1 (fun _ h9 => h9) rfl dX9_restore_38 ?_
      refine lv_sipush (v := (383 : Int32)) hx hb dX9_restore_41 (by decide) ?_
      refine lv_iload_n hx hb dX9_restore_44 rfl (lv_at hl 1 rfl) ?_
      refine lv_imul hx hb dX9_restore_45 ?_
      refine lv_aload_n hx hb dX9_restore_46 rfl (lv_at hl 0 rfl) ?_
      refine va_get (D := D) (ci := 7) (v := .ref a2) (C := RX9) (T := TX9) (N := 11) hx hb hts in_X9 hown hG.1 hP 0 g_Mo_0 rfl 3 (by decide) k_2 (fun _ h9 => h9) rfl dX9_restore_47 ?_
      refine lv_iconst (v := (0 : Int32)) hx hb dX9_restore_50 (by decide) ?_
      refine mvS (A0 := A) (wc := (wCp cy a5 a2 766 383 (mK mo) (mN mo))) (As := [.ref a5, .int ((383 : Int32) * x1), .ref a2, .int (0 : Int32)]) (rest := []) (c_X9_copyState l D cy a5 a2 766 383 (mK mo) (mN mo) ((383 : Int32) * x1) (0 : Int32) (cp_iv (iv_mul (l := 0) (h := 383) (iv_lit (v := 383) (by decide)) (iv_min (lo := 0) (hi := 1) c_1) (by decide)) (by decide)) (cp_iv (iv_lit (v := 0) (by decide)) (by decide))) hCF gX9_restore_X9_copyState rfl hd_X9_copyState ⟨rfl, rfl, Nat.le_of_ble_eq_true rfl, Nat.le_of_ble_eq_true rfl⟩ hG hP hD hS hA [5, 2] rfl c_Mo_Cp52 h_Cp rfl hl.1 rfl (Nat.le_of_ble_eq_true rfl) dX9_restore_51 ⟨Nat.le_refl _, Nat.le_refl _⟩ (fun H locs hP hD hS => ?_)
      have hP : va_P D vwCl (wMo cy a0 a1 a2 a3 a4 a5 a6 (mN' (mR' mo (0 : Int32)) (m_X9_copyState (mK mo) (mN mo) ((383 : Int32) * x1) (0 : Int32)))) H := va_P_eq hP r_Mo_Cp52
      have hD : va_D A (wMo cy a0 a1 a2 a3 a4 a5 a6 (mN' (mR' mo (0 : Int32)) (m_X9_copyState (mK mo) (mN mo) ((383 : Int32) * x1) (0 : Int32)))) := va_D_eq hD r_Mo_Cp52
      refine lv_aload_n hx hb dX9_restore_54 rfl (lv_at hl 0 rfl) ?_
      refine lv_iconst (v := (0 : Int32)) hx hb dX9_restore_55 (by decide) ?_
      refine va_put (D := D) (ci := 7) (v := .int (0 : Int32)) (ty := .int) (C := RX9) (T := TX9) (N := 11) hx hb hts in_X9 tyX9 tyX9_ok nmX9 hown hG.1 hP hD hS 0 g_Mo_0 rfl 6 (by decide) k_3 (fun _ h9 => h9) rfl (by decide +kernel) rfl rfl (Nat.le_of_ble_eq_true rfl) dX9_restore_56 (fun H locs hP hD hS => ?_)
      have hP : va_P D vwCl (wMo cy a0 a1 a2 a3 a4 a5 a6 (mA' (mN' (mR' mo (0 : Int32)) (m_X9_copyState (mK mo) (mN mo) ((383 : Int32) * x1) (0 : Int32))) (0 : Int32))) H := va_P_eq hP s_Mo_0_6
      have hD : va_D A (wMo cy a0 a1 a2 a3 a4 a5 a6 (mA' (mN' (mR' mo (0 : Int32)) (m_X9_copyState (mK mo) (mN mo) ((383 : Int32) * x1) (0 : Int32))) (0 : Int32))) := va_D_eq hD s_Mo_0_6
      refine lv_aload_n hx hb dX9_restore_59 rfl (lv_at hl 0 rfl) ?_
      refine va_get (D := D) (ci := 7) (v := .ref a2) (C := RX9) (T := TX9) (N := 11) hx hb hts in_X9 hown hG.1 hP 0 g_Mo_0 rfl 3 (by decide) k_2 (fun _ h9 => h9) rfl dX9_restore_60 ?_
      refine lv_iconst (v := (1 : Int32)) hx hb dX9_restore_63 (by decide) ?_
      refine va_iald hx hb hG.1 hP 2 0 (n := 383) (f := (m_X9_copyState (mK mo) (mN mo) ((383 : Int32) * x1) (0 : Int32))) g_Mo_2 rfl (bd_of (by decide) (by decide)) dX9_restore_64 ?_
      exact mu_iret hx hb hr hlocks hP hS dX9_restore_65 (by rw [m_X9_restore, if_neg c_1, if_neg c_2]) (by rw [m_X9_restore, if_neg c_1, if_neg c_2])
    · skip
      refine lv_iconst (v := (2 : Int32)) hx hb dX9_restore_24 (by decide) ?_
      refine lv_goto (tgt := 29) hx hb dX9_restore_25 (by decide) ?_
      refine muV (A0 := A) (wc := (wMo cy a0 a1 a2 a3 a4 a5 a6 mo)) (As := [.int (2 : Int32)]) (rest := []) (c_X9_refused l D cy a0 a1 a2 a3 a4 a5 a6 mo (2 : Int32)) hCF gX9_restore_X9_refused rfl hd_X9_refused ⟨rfl, rfl, Nat.le_of_ble_eq_true rfl, Nat.le_of_ble_eq_true rfl⟩ hG hP hD hS hA [0, 1, 2, 3, 4, 5, 6] rfl c_Mo_Mo h_Mo (ci := 7) rfl rfl g_Mo_0 rfl hl.1 rfl (Nat.le_of_ble_eq_true rfl) dX9_restore_29 ⟨Nat.le_refl _, Nat.le_refl _⟩ (fun H locs hP hD hS => ?_)
      have hP : va_P D vwCl (wMo cy a0 a1 a2 a3 a4 a5 a6 (mR' mo (2 : Int32))) H := va_P_eq hP r_Mo_Mo
      have hD : va_D A (wMo cy a0 a1 a2 a3 a4 a5 a6 (mR' mo (2 : Int32))) := va_D_eq hD r_Mo_Mo
      refine lv_if_eq (tgt := 37) hx hb dX9_restore_32 (by decide) (fun c => absurd c (rf_lit2 _)) (fun _ => ?_)
      refine lv_iconst (v := (0 : Int32)) hx hb dX9_restore_35 (by decide) ?_
      exact mu_iret hx hb hr hlocks hP hS dX9_restore_36 (by rw [m_X9_restore, if_neg c_1, if_pos c_2]) (by rw [m_X9_restore, if_neg c_1, if_pos c_2])
  · skip
    refine lv_iconst (v := (1 : Int32)) hx hb dX9_restore_11 (by decide) ?_
    refine lv_goto (tgt := 29) hx hb dX9_restore_12 (by decide) ?_
    refine muV (A0 := A) (wc := (wMo cy a0 a1 a2 a3 a4 a5 a6 mo)) (As := [.int (1 : Int32)]) (rest := []) (c_X9_refused l D cy a0 a1 a2 a3 a4 a5 a6 mo (1 : Int32)) hCF gX9_restore_X9_refused rfl hd_X9_refused ⟨rfl, rfl, Nat.le_of_ble_eq_true rfl, Nat.le_of_ble_eq_true rfl⟩ hG hP hD hS hA [0, 1, 2, 3, 4, 5, 6] rfl c_Mo_Mo h_Mo (ci := 7) rfl rfl g_Mo_0 rfl hl.1 rfl (Nat.le_of_ble_eq_true rfl) dX9_restore_29 ⟨Nat.le_refl _, Nat.le_refl _⟩ (fun H locs hP hD hS => ?_)
    have hP : va_P D vwCl (wMo cy a0 a1 a2 a3 a4 a5 a6 (mR' mo (1 : Int32))) H := va_P_eq hP r_Mo_Mo
    have hD : va_D A (wMo cy a0 a1 a2 a3 a4 a5 a6 (mR' mo (1 : Int32))) := va_D_eq hD r_Mo_Mo
    refine lv_if_eq (tgt := 37) hx hb dX9_restore_32 (by decide) (fun c => absurd c (rf_lit1 _)) (fun _ => ?_)
    refine lv_iconst (v := (0 : Int32)) hx hb dX9_restore_35 (by decide) ?_
    exact mu_iret hx hb hr hlocks hP hS dX9_restore_36 (by rw [m_X9_restore, if_pos c_1]) (by rw [m_X9_restore, if_pos c_1])
