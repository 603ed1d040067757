/-! p35: the law's entry -/
section CNL
variable {p : Program} {l : Launch} {e : Env} {R : Room} {s : State} {m : MethodId} {args : Array Value} {below : List Frame} {meth : Method} {c : Code} {H : Heap} {locs : List Loc} {cells slots : Nat} {Q : State → Prop}
variable {pc : Nat} {ls : Array Slot} {rest : List Value} {D : va_G} {cy : Nat → ClassId} {cc : ByteArray} {A : Nat → Prop} {t : FxA}
variable {y : MethodName} {bytes : ByteArray} {maxL nL index : Nat} {wy ws' : List Cond} {rm : Room} {Ts : List Cond} {own : String} {b : Addr} {st0 : List Value} {wc wr : va_W} {B : (Nat → Prop) → Heap → Prop}
/-- a constructor that anybody may call, on an object that was made just now -/
theorem cnL (hc : CN l D cy t y wy rm wc [.ref b] B) (S : CallFix p m c cc nL s args Ts own) (hT : GoodIn Ts wy) (hlk : (Cond.methodLink own index y).before args s = true) (hini : (Cond.initialized y.cls).before args s = true) (him : (Cond.instanceMethod y).before args s = true) (hnm : y.name = "<init>") (hw : wy = Cond.code y bytes maxL none :: ws')
    (hd : y.cls ≠ "java/lang/invoke/MethodHandle" ∧ y.cls ≠ "java/lang/invoke/VarHandle" ∧ (parseMethodDescriptor y.desc).map (fun d => d.parameters.length) = some 0) (hrm : rm.frames + 1 ≤ R.frames ∧ 8 + (maxL + 11) + rm.locals ≤ R.locals) (hG : GK D cy s) (hF : FX t A s s.heap) (hP : va_P D vwCl (wr ++ wc) H) (hD : va_D A (wr ++ wc)) (hS : va_S A s.heap H locs) (hA : ∀ q, s.heap.size ≤ q → A q)
    (hsize : ls.size = nL) (hst : st0 = .ref b :: rest) (hW : (rest.map fun v => v.category).sum ≤ 8) (hdg : decode cc pc = .ok (.invokespecial index, 3)) (hf : cells + rm.cells ≤ R.cells ∧ slots + rm.slots ≤ R.slots)
    (kk : ∀ (H1 : Heap) (locs1 : List Loc), va_P D vwCl wr H1 → va_D A wr → va_S A s.heap H1 locs1 → (∀ w1 : va_W, va_P D vwCl w1 H1 → va_D (va_A wc H.size) w1 → va_P D vwCl (wr ++ w1) H1 ∧ va_D A (wr ++ w1)) → B (va_A wc H.size) H1 → W p l e R s m args below meth c H1 locs1 (cells + rm.cells) (slots + rm.slots) Q (F0 m (pc + 3) ls rest)) : W p l e R s m args below meth c H locs cells slots Q (F0 m pc ls st0) := by
  subst hst
  have hPc := va_P_right hP
  have hDc := va_D_right hD
  have hfr : ∀ q, va_A wc H.size q → A q := fun q z => w_free hD hS hA q (ctx_A (r := wr) List.perm_append_comm q z)
  refine va_callv (va_runI (As := []) (rest := rest) S (hc H.size) (cwI 0 S.2.2.2.2 hT hw rfl rfl hini hlk him hnm hd hrm) (pre_muf hG hF hS hPc hDc hfr) rfl rfl hsize rfl (lv_room hW) hdg hf) hS (fun q _ h => hfr q h) hfr (fun u t1 H1 locs1 ht hvm hw hB hz hk hS1 => ?_)
  have hB : B (va_A wc H.size) t1.heap := hB
  rw [ht] at hB
  have out : ∀ q ∈ wr, q.1 < H.size ∧ ¬ va_A wc H.size q.1 := by
    intro q hq
    have kl := (va_P_mem hP (List.mem_append_left _ hq)).lt
    refine ⟨kl, fun z => ?_⟩
    rcases z with ⟨j, e9, hj⟩ | z
    · have nd := (va_D_iff.mp hD).1
      rw [List.map_append] at nd
      exact (List.pairwise_append.mp nd).2.2 _ (List.mem_map_of_mem (f := Prod.fst) hq) _ (List.mem_map_of_mem (f := Prod.fst) (List.mem_of_getElem? hj)) rfl
    · omega
  have hPr : va_P D vwCl wr H1 := va_P_of (fun q hq => (va_P_mem hP (List.mem_append_left _ hq)).kept (hk q.1 (out q hq).1 (out q hq).2))
  have hDr := va_D_left hD
  refine kk H1 locs1 hPr hDr hS1 (fun w1 hP1 hD1 => ⟨hPr.app hP1, ?_⟩) hB
  rw [va_D_iff] at hDr hD1 ⊢
  refine ⟨?_, fun q hq => ?_⟩
  · rw [List.map_append]
    refine List.pairwise_append.mpr ⟨hDr.1, hD1.1, fun x hx z hz e9 => ?_⟩
    obtain ⟨q1, g1, rfl⟩ := List.mem_map.mp hx
    obtain ⟨q2, g2, rfl⟩ := List.mem_map.mp hz
    exact (out q1 g1).2 (by rw [e9]; exact hD1.2 q2 g2)
  · rcases List.mem_append.mp hq with h | h
    · exact hDr.2 q h
    · exact hfr _ (hD1.2 q h)
end CNL
theorem hd_X8i : yX8_init.cls ≠ "java/lang/invoke/MethodHandle" ∧ yX8_init.cls ≠ "java/lang/invoke/VarHandle" ∧ (parseMethodDescriptor yX8_init.desc).map (fun d => d.parameters.length) = some 0 := by decide +kernel
theorem ti_law : Cond.classLink RL 8 RX8 ∈ lw_tbl ∧ Cond.instantiable RX8 6 ∈ lw_tbl ∧ Cond.initialized RX8 ∈ lw_tbl ∧ Cond.methodLink RL 223 yX8_init ∈ lw_tbl ∧ Cond.instanceMethod yX8_init ∈ lw_tbl := by decide +kernel
theorem sg_0 : SG 100000 st00 := by
  refine ⟨by decide, by decide, ⟨fun i _ => ?_, fun a b q _ _ _ => Or.inl rfl⟩, fun u _ => ?_⟩
  · have e : sD st00 i = 0 := rfl
    rw [e, i32_0]
    omega
  · have e1 : uO (sU st00) u = 0 := rfl
    have e2 : uP (sU st00) u = 0 := rfl
    rw [e1, e2]
    exact ⟨iv_wide iv_0 (by decide), iv_wide iv_0 (by decide)⟩
theorem gs_0 : GS 100000 sp0 := ⟨sg_0, fun j hj => absurd hj (by rw [show hcN (pH sp0) = 0 from kn0]; exact Nat.not_lt_zero j), fun q => absurd rfl q, fun q => absurd rfl q⟩
theorem sim_0 : SIM 100000 sp0 sp0 := ⟨mo0, pr_0, pr_0⟩
set_option maxRecDepth 20000 in
theorem w_entry {p : Program} {l : Launch} {e : Env} {s : State} {m : MethodId} {below : List Frame} {meth : Method} {c : Code} {b L : Nat} {xs : Nat → Int32} {D : va_G} {cy : Nat → ClassId} {t : FxA} {Q : State → Prop} (C0 : LC p l s m meth c b L xs D cy t (fun q => s.heap.size ≤ q)) (hL : L ≤ 260)
    (fin : ∀ (ls : Array Slot) (H : Heap) (locs : List Loc) (cells slots : Nat), cells ≤ 657255 → slots ≤ 7129858 → lv_has ls 10 [(3, .int (1 : Int32))] → va_S (fun q => s.heap.size ≤ q) s.heap H locs → Wx p l e room_1 s m #[Value.ref b] below meth c H locs cells slots Q (F0 m 242 ls [])) (ls : Array Slot) (hl : lv_has ls 10 [(0, .ref b)]) : Wx p l e room_1 s m #[Value.ref b] below meth c s.heap [] 0 0 Q (F0 m 0 ls []) := by
  have C1 := C0
  obtain ⟨hx, hb, hCF, hG, hF, hX, hbl, hbA, hA, hl0, hown⟩ := C0
  have hts := hCF.2.2.2.2
  have hP : va_P D vwCl ([] : va_W) s.heap := fun k q hq => by cases hq
  have hD : va_D (fun q => s.heap.size ≤ q) ([] : va_W) := ⟨fun i j p q hi => by (cases hi), fun k q hq => by cases hq⟩
  have hS : va_S (fun q => s.heap.size ≤ q) s.heap s.heap [] := va_S.rf
  refine va_new (ci := 6) (fs := [.null, .null, .null, .null, .null, .null]) (C := RX8) (T := TX8) (N := 6) hx hb hts (fun w h => (in_wsX80 w h).1) tyX8 tyX8_ok hown (hts _ ti_law.1) (hts _ ti_law.2.1) (hts _ ti_law.2.2.1) hG.1 hP hD hS hA rfl (fun j hj => by rcases (show j = 0 ∨ j = 1 ∨ j = 2 ∨ j = 3 ∨ j = 4 ∨ j = 5 by omega) with rfl | rfl | rfl | rfl | rfl | rfl <;> rfl) (Nat.le_of_ble_eq_true rfl) (Nat.le_of_ble_eq_true rfl) dL_law_0 (fun x H hP hD hS => ?_)
  refine lv_dup hx hb dL_law_3 rfl ?_
  refine cnL (wr := ([] : va_W)) (wc := [(x, .inr (6, [.null, .null, .null, .null, .null, .null]))]) (rest := [.ref x]) (c_X8_init l D cy t x) hCF ggw_X8_init.lw (hts _ ti_law.2.2.2.1) (hts _ ti_law.2.2.1) (hts _ ti_law.2.2.2.2) rfl rfl hd_X8i ⟨Nat.le_of_ble_eq_true rfl, Nat.le_of_ble_eq_true rfl⟩ hG hF hP hD hS hA hl.1 rfl (Nat.le_of_ble_eq_true rfl) dL_law_4 ⟨Nat.le_of_ble_eq_true rfl, Nat.le_of_ble_eq_true rfl⟩ (fun H locs _ _ hS hj hB => ?_)
  obtain ⟨xa, sa, sb, tr, na, ka, rfl, hP1, hD1⟩ := hB
  obtain ⟨hP, hD⟩ := hj _ hP1 hD1
  clear hj hP1 hD1
  refine W.widen (k := 400) (n := 10000) (Nat.le_of_ble_eq_true rfl) (Nat.le_of_ble_eq_true rfl) ?_
  refine lv_astore_n (lv' := [(1, .ref (xa 0)), (0, .ref b)]) hx hb dL_law_7 rfl hl (by decide) rfl (fun ls hl => ?_)
  refine va_new (ci := 6) (fs := [.null, .null, .null, .null, .null, .null]) (C := RX8) (T := TX8) (N := 6) hx hb hts (fun w h => (in_wsX80 w h).1) tyX8 tyX8_ok hown (hts _ ti_law.1) (hts _ ti_law.2.1) (hts _ ti_law.2.2.1) hG.1 hP hD hS hA rfl (fun j hj => by rcases (show j = 0 ∨ j = 1 ∨ j = 2 ∨ j = 3 ∨ j = 4 ∨ j = 5 by omega) with rfl | rfl | rfl | rfl | rfl | rfl <;> rfl) (Nat.le_of_ble_eq_true rfl) (Nat.le_of_ble_eq_true rfl) dL_law_8 (fun y H hP hD hS => ?_)
  refine lv_dup hx hb dL_law_11 rfl ?_
  refine cnL (wr := wSp cy xa sa sb tr na ka sp0) (wc := [(y, .inr (6, [.null, .null, .null, .null, .null, .null]))]) (rest := [.ref y]) (c_X8_init l D cy t y) hCF ggw_X8_init.lw (hts _ ti_law.2.2.2.1) (hts _ ti_law.2.2.1) (hts _ ti_law.2.2.2.2) rfl rfl hd_X8i ⟨Nat.le_of_ble_eq_true rfl, Nat.le_of_ble_eq_true rfl⟩ hG hF hP hD hS hA hl.1 rfl (Nat.le_of_ble_eq_true rfl) dL_law_12 ⟨Nat.le_of_ble_eq_true rfl, Nat.le_of_ble_eq_true rfl⟩ (fun H locs _ _ hS hj hB => ?_)
  obtain ⟨xb, sc, sd, ts, nb, kb, rfl, hP1, hD1⟩ := hB
  obtain ⟨hP, hD⟩ := hj _ hP1 hD1
  clear hj hP1 hD1
  refine W.widen (k := 800) (n := 20000) (Nat.le_of_ble_eq_true rfl) (Nat.le_of_ble_eq_true rfl) ?_
  refine lv_astore_n (lv' := [(2, .ref (xb 0)), (1, .ref (xa 0)), (0, .ref b)]) hx hb dL_law_15 rfl hl (by decide) rfl (fun ls hl => ?_)
  refine lv_iconst (v := (1 : Int32)) hx hb dL_law_16 (by decide) ?_
  refine lv_istore_n (lv' := [(3, .int (1 : Int32)), (2, .ref (xb 0)), (1, .ref (xa 0)), (0, .ref b)]) hx hb dL_law_17 rfl hl (by decide) rfl (fun ls hl => ?_)
  refine lv_iconst (v := (0 : Int32)) hx hb dL_law_18 (by decide) ?_
  refine lv_istore (lv' := [(4, .int (nI 0)), (3, .int (1 : Int32)), (2, .ref (xb 0)), (1, .ref (xa 0)), (0, .ref b)]) hx hb dL_law_19 hl (by decide) rfl (fun ls hl => ?_)
  refine W.widen (k := 1000) (n := 30000) (Nat.le_of_ble_eq_true rfl) (Nat.le_of_ble_eq_true rfl) ?_
  exact w_ll C1 hL 30 0 sp0 sp0 100000 rfl sim_0 gs_0 gs_0 (by decide) (by decide) (by decide) (by decide) hl hP hD hS (fun ls H locs z1 z2 cells slots h1 h2 hl hS => fin ls H locs cells slots h1 h2 hl hS)
