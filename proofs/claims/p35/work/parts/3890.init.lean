def mo0 : MoT := (0, (fun _ => 0), 0, m_X9_begin (fun _ => 0), (fun _ => 0), (fun _ => 0), 0, (fun _ => 0), (fun _ => 0), 0, 0)
theorem bk_same {cy : Nat → ClassId} {ka kb : Nat → Nat → Nat} {f : Nat → StT} : ∀ n : Nat, (∀ j : Nat, j < n → ka j = kb j) → wBk cy ka f n = wBk cy kb f n := by
  intro n
  induction n with
  | zero => intro _; rfl
  | succ n ih =>
    intro h
    rw [bk_succ, bk_succ, ih (fun j hj => h j (by omega)), h n (by omega)]
def hi0 : HiT := ((fun _ => st00), 0, 0)
def at_X2 (D : va_G) (cy : Nat → ClassId) (a : Nat) (A : Nat → Prop) (H : Heap) : Prop := ∃ (h1 : Nat) (ka : Nat → Nat → Nat), va_P D vwCl (wHi cy a h1 ka hi0) H ∧ va_D A (wHi cy a h1 ka hi0)
/-- the history under way: the first i places hold their states -/
def wHx (cy : Nat → ClassId) (a h1 : Nat) (ka : Nat → Nat → Nat) (i : Nat) : va_W := [(a, .inr (2, [.ref h1, .int 0, .int 0])), (h1, .inl (cy 2, 15, .inr (.inr (.inr (.inr (fun j => if j < i then some (ka j 0) else none))))))] ++ wBk cy ka (fun _ => st00) i
theorem hd_X2_init : yX2_init.cls ≠ "java/lang/invoke/MethodHandle" ∧ yX2_init.cls ≠ "java/lang/invoke/VarHandle" ∧ (parseMethodDescriptor yX2_init.desc).map (fun d => d.parameters.length) = some 0 := by decide +kernel
theorem hx_step {cy : Nat → ClassId} {a h1 i : Nat} {ka : Nat → Nat → Nat} {ad : Nat → Nat} : ([(a, .inr (2, [.ref h1, .int 0, .int 0])), (h1, .inl (cy 2, 15, .inr (.inr (.inr (.inr (va_up (fun j => if j < i then some (ka j 0) else none) i (some (ad 0))))))))] : va_W) ++ (wBk cy ka (fun _ => st00) i ++ wSt cy ad st00) = wHx cy a h1 (va_up ka i ad) (i + 1) := by
  have e1 : va_up (fun j => if j < i then some (ka j 0) else none) i (some (ad 0)) = (fun j => if j < i + 1 then some (va_up ka i ad j 0) else none) := by
    funext j
    unfold va_up
    by_cases c : j = i
    · rw [if_pos c, if_pos c, if_pos (by omega)]
    · rw [if_neg c, if_neg c]
      dsimp only
      by_cases c2 : j < i
      · rw [if_pos c2, if_pos (by omega)]
      · rw [if_neg c2, if_neg (by omega)]
  have e2 : wBk cy ka (fun _ => st00) i = wBk cy (va_up ka i ad) (fun _ => st00) i := bk_same i (fun j hj => by unfold va_up; rw [if_neg (by omega)])
  have e3 : va_up ka i ad i = ad := if_pos rfl
  unfold wHx
  rw [bk_succ, e3, e1, e2]
set_option maxHeartbeats 2000000 in
set_option maxRecDepth 20000 in
theorem c_X2_init (l : Launch) (D : va_G) (cy : Nat → ClassId) (t : FxA) (a : Nat) : CN l D cy t yX2_init wsX2_init ({ frames := 3, cells := 226, slots := 5970, locals := 80 } : Room) [(a, .inr (2, [.null, .int 0, .int 0]))] [.ref a] (at_X2 D cy a) := by
  refine CN.body (by decide) rfl (Nat.le_of_ble_eq_true rfl) ?_
  intro p e s m below meth c hx hb hml hr hts hown hlocks hnm hP hG ls hl A hD hA hS hF
  have hl : lv_has ls 2 [(0, .ref a)] := hl
  have hCF : CallFix p m c cX2_init 2 s ([.ref a] : List Value).toArray wsX2_init RX2 := ⟨hx, hb, hml, hown, hts⟩
  have in_X2 : ∀ w ∈ u_ws RX2 TX2 3, w ∈ wsX2_init := fun _ h => List.mem_cons_of_mem _ (List.mem_append_left _ (List.mem_append_left _ (List.mem_append_left _ (List.mem_append_left _ (List.mem_append_right _ h)))))
  have in_X5 : ∀ w ∈ u_ws RX5 TX5 9, w ∈ wsX2_init := fun _ h => List.mem_cons_of_mem _ (List.mem_append_left _ (List.mem_append_left _ (List.mem_append_left _ (List.mem_append_right _ h))))
  have ko := hts (Cond.methodLink RX2 3 objectInit) (List.mem_of_getElem? (i := 1) rfl)
  have ki := hts (Cond.instanceMethod objectInit) (List.mem_of_getElem? (i := 2) rfl)
  have kc := hts (Cond.code objectInit ⟨#[0xb1]⟩ 1 none) (List.mem_of_getElem? (i := 3) rfl)
  have kl := hts (Cond.classLink RX2 11 RX5) (List.mem_of_getElem? (i := 4) rfl)
  have kn := hts (Cond.instantiable RX5 9) (List.mem_of_getElem? (i := 6) rfl)
  have kz := hts (Cond.initialized RX5) (List.mem_of_getElem? (i := 7) rfl)
  have km := hts (Cond.instanceMethod yX5_init) (List.mem_of_getElem? (i := 8) rfl)
  have kf := hts (Cond.fieldLink RX2 13 "SparePool$History" "kept" "[LSparePool$State;") (List.mem_of_getElem? (i := 5) rfl)
  have L_15 : ∀ (n i : Nat), i + n = 15 → ∀ (h1 : Nat) (ka : Nat → Nat → Nat) (H : Heap) (locs : List Loc), va_P D vwCl (wHx cy a h1 ka i) H → va_D A (wHx cy a h1 ka i) → va_S A s.heap H locs → ∀ ls : Array Slot, lv_has ls 2 [(1, .int (nI i)), (0, .ref a)] → W p l e ({ frames := 3, cells := 226, slots := 5970, locals := 80 } : Room) s m ([.ref a] : List Value).toArray below meth c H locs (1 + 15 * i) (15 + 397 * i) (MQ below (va_Qv (fun (_ : Unit) => True) (fun _ u => at_X2 D cy a A u.heap) A) ([.ref a] : List Value).toArray s 226 5970 A) (F0 m 15 ls []) := by
    intro n
    induction n with
    | zero =>
      intro i hi h1 ka H locs hP hD hS ls hl
      have e : i = 15 := by omega
      subst e
      refine lv_iload_n hx hb dX2_init_15 rfl (lv_at hl 0 rfl) ?_
      refine lv_bipush (v := (15 : Int32)) hx hb dX2_init_16 (by decide) ?_
      refine lv_icmp_ge (tgt := 40) hx hb dX2_init_18 (by decide) (fun _ => ?_) (fun c => absurd (by decide) c)
      have fin : at_X2 D cy a A H := by
        refine ⟨h1, ka, ?_, by refine w_adr ?_ hD; rfl⟩
        refine va_P.app ?_ (va_P_right hP)
        intro k q hq
        match k with
        | 0 => cases hq; exact va_P_left hP 0 _ rfl
        | 1 => cases hq; exact at_arrq (va_P_left hP 1 _ rfl) (fun j hj => if_pos hj)
        | k + 2 => cases hq
      exact W.vret hx hb hr (fun u hu _ => ⟨⟨(), rfl, trivial, by show at_X2 D cy a A u.heap; rw [hu]; exact fin⟩, hS.F hu⟩) hS.2.2 dX2_init_40 hlocks
    | succ n ih =>
      intro i hi h1 ka H locs hP hD hS ls hl
      have ei : (nI i).toInt = i := nI_toInt (by omega)
      have ek : (nI i).toNatClampNeg = i := nI_clamp (by omega)
      have e15 : (15 : Int32).toInt = 15 := by decide
      refine lv_iload_n hx hb dX2_init_15 rfl (lv_at hl 0 rfl) ?_
      refine lv_bipush (v := (15 : Int32)) hx hb dX2_init_16 (by decide) ?_
      refine lv_icmp_ge (tgt := 40) hx hb dX2_init_18 (by decide) (fun c => absurd c (by rw [i32_le]; omega)) (fun _ => ?_)
      refine lv_aload_n hx hb dX2_init_21 rfl (lv_at hl 1 rfl) ?_
      refine va_get (D := D) (ci := 2) (v := .ref h1) (C := RX2) (T := TX2) (N := 3) hx hb hts in_X2 hown hG.1 hP 0 rfl rfl 0 (by decide) kf (fun _ h9 => h9) rfl dX2_init_22 ?_
      refine lv_iload_n hx hb dX2_init_25 rfl (lv_at hl 0 rfl) ?_
      refine va_new (ci := 3) (fs := [.null, .null, .null, .null, .null, .int 0, .int 0, .int 0, .int 0]) (C := RX5) (T := TX5) (N := 9) hx hb hts in_X5 tyX5 tyX5_ok hown kl kn kz hG.1 hP hD hS hA rfl (fun j hj => by rcases (show j = 0 ∨ j = 1 ∨ j = 2 ∨ j = 3 ∨ j = 4 ∨ j = 5 ∨ j = 6 ∨ j = 7 ∨ j = 8 by omega) with rfl | rfl | rfl | rfl | rfl | rfl | rfl | rfl | rfl <;> rfl) (by show _ ≤ 226; omega) (by show _ ≤ 5970; omega) dX2_init_26 (fun b H hP hD hS => ?_)
      refine lv_dup hx hb dX2_init_29 rfl ?_
      refine cnN (wr := wHx cy a h1 ka i) (wc := [(b, .inr (3, [.null, .null, .null, .null, .null, .int 0, .int 0, .int 0, .int 0]))]) (rest := [.ref b, .int (nI i), .ref h1]) (c_X5_init l D cy t b) hCF gX2_init_X5_init_n17 (nw_X2_17 hG.2) kz km rfl rfl hd_X5_init ⟨Nat.le_of_ble_eq_true rfl, Nat.le_of_ble_eq_true rfl⟩ hG hF hP hD hS hA hl.1 rfl (Nat.le_of_ble_eq_true rfl) dX2_init_30 ⟨by show 1 + 15 * i + 1 + 14 ≤ 226; omega, by show 15 + 397 * i + 9 + 388 ≤ 5970; omega⟩ (fun H locs _ _ hS hj hB => ?_)
      obtain ⟨ad, had, hP1, hD1⟩ := hB
      obtain ⟨hP, hD⟩ := hj _ hP1 hD1
      clear hj hP1 hD1
      have hmem : (b, .inr (3, [.ref (ad 1), .ref (ad 7), .ref (ad 11), .ref (ad 13), .ref (ad 14), .int 0, .int 0, .int 0, .int 0])) ∈ wHx cy a h1 ka i ++ wSt cy ad st00 := List.mem_append_right _ (by rw [← had]; exact List.mem_of_getElem? g_St_0)
      obtain ⟨qk, hqk⟩ := List.mem_iff_getElem?.mp hmem
      refine va_astq hx hb hG.1 hP hD hS 1 2 qk 3 (f := fun j => if j < i then some (ka j 0) else none) rfl rfl hqk rfl (bd_of (by omega) (by omega)) dX2_init_33 (fun H locs hP hD hS => ?_)
      rw [ek, ← had] at hP hD
      have hP : va_P D vwCl (wHx cy a h1 (va_up ka i ad) (i + 1)) H := va_P_eq hP hx_step
      have hD : va_D A (wHx cy a h1 (va_up ka i ad) (i + 1)) := va_D_eq hD hx_step
      refine lv_iinc (v := nI (i + 1)) (lv' := [(1, .int (nI (i + 1))), (0, .ref a)]) hx hb dX2_init_34 hl (k := 0) rfl (nI_1 i) (by decide) rfl (fun ls hl => ?_)
      refine lv_goto (tgt := 15) hx hb dX2_init_37 (by decide) ?_
      refine W.widen (k := 1 + 15 * (i + 1)) (n := 15 + 397 * (i + 1)) (by show 1 + 15 * i + 1 + 14 ≤ _; omega) (by show 15 + 397 * i + 9 + 388 ≤ _; omega) ?_
      exact ih (i + 1) (by omega) h1 _ H locs hP hD hS ls hl
  refine lv_aload_n hx hb dX2_init_0 rfl (lv_at hl 0 rfl) ?_
  refine W.objInit hx hb hown ko ki kc rfl (by rw [hml]; exact hl.1) rfl dX2_init_1 (Nat.le_of_ble_eq_true rfl) (Nat.le_of_ble_eq_true rfl) ?_
  refine W.eq (g2 := F0 m 4 ls []) rfl ?_
  refine lv_aload_n hx hb dX2_init_4 rfl (lv_at hl 0 rfl) ?_
  refine lv_bipush (v := (15 : Int32)) hx hb dX2_init_5 (by decide) ?_
  refine nw_arq (N' := 15) hx hb hown kl hF.2.2.2.2.2.1 2 rfl hG.1 hP hD hS hA (by decide) (by decide) (Nat.le_of_ble_eq_true rfl) (Nat.le_of_ble_eq_true rfl) (Nat.le_of_ble_eq_true rfl) dX2_init_7 (fun h1 H hP hD hS => ?_)
  refine va_putF (D := D) (ci := 2) (v := .ref h1) (ty := .array (.object RX5)) (C := RX2) (T := TX2) (N := 3) hx hb hts in_X2 tyX2 tyX2_ok nmX2 hown hG.1 hP hD hS 0 rfl rfl 0 (by decide) kf (fun _ h9 => h9) rfl hnm rfl (by decide +kernel) rfl rfl (Nat.le_of_ble_eq_true rfl) dX2_init_10 (fun H locs hP hD hS => ?_)
  have e0 : ((fun _ => none) : Nat → Option Nat) = (fun j => if j < 0 then some ((fun _ _ => 0 : Nat → Nat → Nat) j 0) else none) := by
    funext j
    rw [if_neg (by omega)]
  rw [e0] at hP hD
  refine lv_iconst (v := (0 : Int32)) hx hb dX2_init_13 (by decide) ?_
  refine lv_istore_n (lv' := [(1, .int (0 : Int32)), (0, .ref a)]) hx hb dX2_init_14 rfl hl (by decide) rfl (fun ls hl => ?_)
  exact L_15 15 0 rfl h1 (fun _ _ => 0) H locs hP hD hS ls hl
