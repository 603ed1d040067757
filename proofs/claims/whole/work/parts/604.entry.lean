/-! the law's entry -/
section CNL
variable {p : Program} {l : Launch} {e : Env} {R : Room} {s : State} {m : MethodId} {args : Array Value} {below : List Frame} {meth : Method} {c : Code} {H : Heap} {locs : List Loc} {cells slots : Nat} {Q : State → Prop}
variable {pc : Nat} {ls : Array Slot} {rest : List Value} {D : va_G} {cy : Nat → ClassId} {cc : ByteArray} {A : Nat → Prop} {t : FxA}
variable {y : MethodName} {bytes : ByteArray} {maxL nL index : Nat} {wy ws' : List Cond} {rm : Room} {Ts : List Cond} {own : String} {b : Addr} {st0 : List Value} {wc wr : va_W} {B : (Nat → Prop) → Heap → Prop}
/-- a constructor that anybody may call, on an object that was made just now -/
theorem cnL (hc : CN l D cy t y wy rm wc [.ref b] B) (S : CallFix p m c cc nL s args Ts own) (hT : GoodIn Ts wy) (hlk : (Cond.methodLink own index y).before args s = true) (hini : (Cond.initialized y.cls).before args s = true) (him : (Cond.instanceMethod y).before args s = true) (hnm : y.name = "<init>") (hw : wy = Cond.code y bytes maxL none :: ws')
    (hd : y.cls ≠ "java/lang/invoke/MethodHandle" ∧ y.cls ≠ "java/lang/invoke/VarHandle" ∧ (parseMethodDescriptor y.desc).map (fun d => d.parameters.length) = some 0) (hrm : rm.frames + 1 ≤ R.frames ∧ 8 + (maxL + 11) + rm.locals ≤ R.locals) (hG : GK D cy s) (hF : FX t A s s.heap) (hP : va_P D vwCl (wr ++ wc) H) (hD : va_D A (wr ++ wc)) (hS : va_S A s.heap H locs) (hA : ∀ q, s.heap.size ≤ q → A q)
    (hsize : ls.size = nL) (hst : st0 = .ref b :: rest) (hW : (rest.map fun v => v.category).sum ≤ 8) (hdg : decode cc pc = .ok (.invokespecial index, 3)) (hf : cells + rm.cells ≤ R.cells ∧ slots + rm.slots ≤ R.slots)
    (kk : ∀ (H1 : Heap) (locs1 : List Loc), va_P D vwCl wr H1 → va_D A wr → va_S A s.heap H1 locs1 → (∀ w1 : va_W, va_P D vwCl w1 H1 → va_D (va_A wc H.size) w1 → va_P D vwCl (wr ++ w1) H1 ∧ va_D A (wr ++ w1)) → B (va_A wc H.size) H1 → W p l e R s m args below meth c H1 locs1 (cells + rm.cells) (slots + rm.slots) Q (F0 m (pc + 3) ls rest)) : W p l e R s m args below meth c H locs cells slots Q (F0 m pc ls st0) := by
  subst hst
  have hPc := va_P_right hP
  have hDc := va_D_right hD
  have hfr : ∀ q, va_A wc H.size q → A q := fun q z => w_free hD hS hA q (ctx_A (r := wr) List.perm_append_comm q z)
  refine va_callv (va_runI (As := []) (rest := rest) S (hc H.size) (cwI 0 S.2.2.2.2 hT hw rfl rfl hini hlk him hnm hd hrm) (pre_muf hG hF hS hPc hDc hfr) rfl rfl hsize rfl (lv_room hW) hdg hf) hS (fun q _ h => hfr q h) hfr (fun u t1 H1 locs1 ht hvm hw hB hz hk hS1 => ?_)
  have hB : B (va_A wc H.size) t1.heap := hB
  rw [ht] at hB
  have out : ∀ q ∈ wr, q.1 < H.size ∧ ¬ va_A wc H.size q.1 := by
    intro q hq
    have kl := (va_P_mem hP (List.mem_append_left _ hq)).lt
    refine ⟨kl, fun z => ?_⟩
    rcases z with ⟨j, e9, hj⟩ | z
    · have nd := (va_D_iff.mp hD).1
      rw [List.map_append] at nd
      exact (List.pairwise_append.mp nd).2.2 _ (List.mem_map_of_mem (f := Prod.fst) hq) _ (List.mem_map_of_mem (f := Prod.fst) (List.mem_of_getElem? hj)) rfl
    · omega
  have hPr : va_P D vwCl wr H1 := va_P_of (fun q hq => (va_P_mem hP (List.mem_append_left _ hq)).kept (hk q.1 (out q hq).1 (out q hq).2))
  have hDr := va_D_left hD
  refine kk H1 locs1 hPr hDr hS1 (fun w1 hP1 hD1 => ⟨hPr.app hP1, ?_⟩) hB
  rw [va_D_iff] at hDr hD1 ⊢
  refine ⟨?_, fun q hq => ?_⟩
  · rw [List.map_append]
    refine List.pairwise_append.mpr ⟨hDr.1, hD1.1, fun x hx z hz e9 => ?_⟩
    obtain ⟨q1, g1, rfl⟩ := List.mem_map.mp hx
    obtain ⟨q2, g2, rfl⟩ := List.mem_map.mp hz
    exact (out q1 g1).2 (by rw [e9]; exact hD1.2 q2 g2)
  · rcases List.mem_append.mp hq with h | h
    · exact hDr.2 q h
    · exact hfr _ (hD1.2 q h)
end CNL
theorem hd_X8i : yX8_init.cls ≠ "java/lang/invoke/MethodHandle" ∧ yX8_init.cls ≠ "java/lang/invoke/VarHandle" ∧ (parseMethodDescriptor yX8_init.desc).map (fun d => d.parameters.length) = some 0 := by decide +kernel
theorem hd_X9i : yX9_init.cls ≠ "java/lang/invoke/MethodHandle" ∧ yX9_init.cls ≠ "java/lang/invoke/VarHandle" ∧ (parseMethodDescriptor yX9_init.desc).map (fun d => d.parameters.length) = some 0 := by decide +kernel
theorem ti_law : Cond.classLink RL 8 RX8 ∈ lw_tbl ∧ Cond.instantiable RX8 6 ∈ lw_tbl ∧ Cond.initialized RX8 ∈ lw_tbl ∧ Cond.classLink RL 107 RX9 ∈ lw_tbl ∧ Cond.instantiable RX9 11 ∈ lw_tbl ∧ Cond.initialized RX9 ∈ lw_tbl ∧ Cond.methodLink RL 106 yX8_init ∈ lw_tbl ∧ Cond.instanceMethod yX8_init ∈ lw_tbl ∧ Cond.methodLink RL 109 yX9_init ∈ lw_tbl ∧ Cond.instanceMethod yX9_init ∈ lw_tbl ∧ Cond.arrayClass .long ∈ lw_tbl := by decide +kernel
set_option maxRecDepth 20000 in
theorem w_entry {p : Program} {l : Launch} {e : Env} {s : State} {m : MethodId} {below : List Frame} {meth : Method} {c : Code} {b L : Nat} {xs : Nat → Int32} {D : va_G} {cy : Nat → ClassId} {t : FxA} {Q : State → Prop} (hts : ∀ w ∈ lw_tbl, w.before #[Value.ref b] s = true) (C0 : LC p l s m meth c b L xs D cy t (fun q => s.heap.size ≤ q)) (hL : L ≤ 2560)
    (fin : ∀ (H : Heap) (locs : List Loc) (ls : Array Slot) (cells slots : Nat), cells ≤ 601024 → slots ≤ 7293034 → va_S (fun q => s.heap.size ≤ q) s.heap H locs → Wx p l e room_1 s m #[Value.ref b] below meth c H locs cells slots Q (F0 m 2170 ls [])) (ls : Array Slot) (hl : lv_has ls 7 [(0, .ref b)]) : Wx p l e room_1 s m #[Value.ref b] below meth c s.heap [] 0 0 Q (F0 m 0 ls []) := by
  have C1 := C0
  obtain ⟨hx, hb, hCF, hG, hF, hX, hbl, hbA, hA, hl0, hown⟩ := C0
  have hP : va_P D vwCl ([] : va_W) s.heap := fun k q hq => by cases hq
  have hD : va_D (fun q => s.heap.size ≤ q) ([] : va_W) := ⟨fun i j p q hi => by (cases hi), fun k q hq => by cases hq⟩
  have hS : va_S (fun q => s.heap.size ≤ q) s.heap s.heap [] := va_S.rf
  refine va_new (ci := 6) (fs := [.null, .null, .null, .null, .null, .null]) (C := RX8) (T := TX8) (N := 6) hx hb hts (fun w h => (in_wsX80 w h).1) tyX8 tyX8_ok hown (hts _ ti_law.1) (hts _ ti_law.2.1) (hts _ ti_law.2.2.1) hG.1 hP hD hS hA rfl (fun j hj => by rcases (show j = 0 ∨ j = 1 ∨ j = 2 ∨ j = 3 ∨ j = 4 ∨ j = 5 by omega) with rfl | rfl | rfl | rfl | rfl | rfl <;> rfl) (Nat.le_of_ble_eq_true rfl) (Nat.le_of_ble_eq_true rfl) dL_law_0 (fun x H hP hD hS => ?_)
  refine lv_dup hx hb dL_law_3 rfl ?_
  refine cnL (wr := ([] : va_W)) (wc := [(x, .inr (6, [.null, .null, .null, .null, .null, .null]))]) (rest := [.ref x]) (c_X8_init l D cy t x) hCF gL_law_X8_init (hts _ ti_law.2.2.2.2.2.2.1) (hts _ ti_law.2.2.1) (hts _ ti_law.2.2.2.2.2.2.2.1) rfl rfl hd_X8i ⟨Nat.le_of_ble_eq_true rfl, Nat.le_of_ble_eq_true rfl⟩ hG hF hP hD hS hA hl.1 rfl (Nat.le_of_ble_eq_true rfl) dL_law_4 ⟨Nat.le_of_ble_eq_true rfl, Nat.le_of_ble_eq_true rfl⟩ (fun H locs _ _ hS hj hB => ?_)
  obtain ⟨xa, sa, sb, tr, na, ka, rfl, hP1, hD1⟩ := hB
  obtain ⟨hP, hD⟩ := hj _ hP1 hD1
  clear hj hP1 hD1
  refine W.widen (k := 400) (n := 10000) (Nat.le_of_ble_eq_true rfl) (Nat.le_of_ble_eq_true rfl) ?_
  refine lv_astore_n (lv' := [(1, .ref (xa 0)), (0, .ref b)]) hx hb dL_law_7 rfl hl (by decide) rfl (fun ls hl => ?_)
  refine va_new (ci := 7) (fs := [.int 0, .null, .int 0, .null, .null, .null, .int 0, .null, .null, .int 0, .int 0]) (C := RX9) (T := TX9) (N := 11) hx hb hts (fun w h => (in_wsX90 w h).1) tyX9 tyX9_ok hown (hts _ ti_law.2.2.2.1) (hts _ ti_law.2.2.2.2.1) (hts _ ti_law.2.2.2.2.2.1) hG.1 hP hD hS hA rfl (fun j hj => by rcases (show j = 0 ∨ j = 1 ∨ j = 2 ∨ j = 3 ∨ j = 4 ∨ j = 5 ∨ j = 6 ∨ j = 7 ∨ j = 8 ∨ j = 9 ∨ j = 10 by omega) with rfl | rfl | rfl | rfl | rfl | rfl | rfl | rfl | rfl | rfl | rfl <;> rfl) (Nat.le_of_ble_eq_true rfl) (Nat.le_of_ble_eq_true rfl) dL_law_8 (fun a0 H hP hD hS => ?_)
  refine lv_dup hx hb dL_law_11 rfl ?_
  refine cnL (wr := wSp cy xa sa sb tr na ka sp0) (wc := [(a0, .inr (7, [.int 0, .null, .int 0, .null, .null, .null, .int 0, .null, .null, .int 0, .int 0]))]) (rest := [.ref a0]) (c_X9_init l D cy t a0) hCF gL_law_X9_init (hts _ ti_law.2.2.2.2.2.2.2.2.1) (hts _ ti_law.2.2.2.2.2.1) (hts _ ti_law.2.2.2.2.2.2.2.2.2.1) rfl rfl hd_X9i ⟨Nat.le_of_ble_eq_true rfl, Nat.le_of_ble_eq_true rfl⟩ hG hF hP hD hS hA hl.1 rfl (Nat.le_of_ble_eq_true rfl) dL_law_12 ⟨Nat.le_of_ble_eq_true rfl, Nat.le_of_ble_eq_true rfl⟩ (fun H locs _ _ hS hj hB => ?_)
  obtain ⟨a1, a2, a3, a4, a5, a6, hP1, hD1⟩ := hB
  obtain ⟨hP, hD⟩ := hj _ hP1 hD1
  clear hj hP1 hD1
  refine W.widen (k := 500) (n := 20000) (Nat.le_of_ble_eq_true rfl) (Nat.le_of_ble_eq_true rfl) ?_
  refine lv_astore_n (lv' := [(2, .ref a0), (1, .ref (xa 0)), (0, .ref b)]) hx hb dL_law_15 rfl hl (by decide) rfl (fun ls hl => ?_)
  refine lv_iconst (v := (1 : Int32)) hx hb dL_law_16 (by decide) ?_
  refine nw_arr (atype := .long) (N' := 1) (a0 := (1, .inr (.inl (fun _ => 0)))) hx hb (hts _ ti_law.2.2.2.2.2.2.2.2.2.2) rfl (nm := "[J") (fun cA h => va_nm_long h) 3 (ty := .long) rfl hG.1 hP hD hS hA (fun cA => rfl) (by decide) (by decide) (by decide) (Nat.le_of_ble_eq_true rfl) (Nat.le_of_ble_eq_true rfl) dL_law_17 (fun oa H hP hD hS => ?_)
  have pm : ((wSp cy xa sa sb tr na ka sp0 ++ wMo cy a0 a1 a2 a3 a4 a5 a6 mo0) ++ [(oa, .inl (cy 3, 1, .inr (.inl (fun _ => 0))))] : va_W).Perm (wO cy oa (fun _ => 0) (wSp cy xa sa sb tr na ka sp0 ++ wMo cy a0 a1 a2 a3 a4 a5 a6 mo0)) := List.perm_append_singleton _ _
  have hP := va_P_perm pm hP
  have hD := va_D_perm pm hD
  refine lv_astore_n (lv' := [(3, .ref oa), (2, .ref a0), (1, .ref (xa 0)), (0, .ref b)]) hx hb dL_law_19 rfl hl (by decide) rfl (fun ls hl => ?_)
  refine lv_iconst (v := (0 : Int32)) hx hb dL_law_20 (by decide) ?_
  refine lv_istore (lv' := [(4, .int (nI 0)), (3, .ref oa), (2, .ref a0), (1, .ref (xa 0)), (0, .ref b)]) hx hb dL_law_21 hl (by decide) rfl (fun ls hl => ?_)
  have hl : lv_has ls 7 [(0, .ref b), (1, .ref (xa 0)), (2, .ref a0), (3, .ref oa), (4, .int (nI 0))] := ⟨hl.1, hl.2.1, fun q hq => hl.2.2 q ((List.reverse_perm [(4, Value.int (nI 0)), (3, .ref oa), (2, .ref a0), (1, .ref (xa 0)), (0, .ref b)]).mem_iff.mp hq)⟩
  refine W.widen (k := 600) (n := 30000) (Nat.le_of_ble_eq_true rfl) (Nat.le_of_ble_eq_true rfl) ?_
  exact w_loop C1 hL fin 513 0 100000 600 30000 H locs ls sp0 mo0 (fun _ => 0) (by omega) (by omega) (by decide) (by decide) (by decide) (by decide) hl pr_0 hP hD hS
