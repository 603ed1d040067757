/-- a constructor: what it is given is one object with its first values; B tells what stands at its end -/
def CN (l : Launch) (D : va_G) (cy : Nat → ClassId) (t : FxA) (y : MethodName) (ws : List Cond) (rm : Room) (w : va_W) (As : List Value) (B : (Nat → Prop) → Heap → Prop) : Prop := ∀ sz : Nat,
  Met l y ws rm (va_Pc As (fun U => U.heap.size = sz ∧ va_P D vwCl w U.heap ∧ va_D (fun _ => True) w ∧ GK D cy U ∧ FX t (va_A w sz) U U.heap)) (va_Qv (fun (_ : Unit) => True) (fun _ u => B (va_A w sz) u.heap) (va_A w sz)) rm.cells rm.slots (va_A w sz)
section CNB
variable {l : Launch} {D : va_G} {cy : Nat → ClassId} {t : FxA} {y : MethodName} {ws ws' : List Cond} {rm : Room} {w : va_W} {As : List Value} {cc : ByteArray} {maxL : Nat} {ret : Option FieldType} {B : (Nat → Prop) → Heap → Prop}
theorem CN.body (hy : plainName y.cls = true) (hw : ws = Cond.code y cc maxL ret :: ws') (hlen : (lg_sl As).length ≤ maxL)
    (k : ∀ p e s m below meth c, p.tables.exec = Jvm.exec → c.code = cc → c.maxLocals = maxL → meth.sig.returnType = ret → (∀ z ∈ ws, z.before As.toArray s = true) → s.vm.findClass y.cls = some m.cls → meth.locks = false → meth.name = y.name → va_P D vwCl w s.heap → GK D cy s → ∀ ls : Array Slot, lv_has ls maxL (lv_args 0 As) →
      ∀ A : Nat → Prop, va_D A w → (∀ q, s.heap.size ≤ q → A q) → va_S A s.heap s.heap [] → FX t A s s.heap →
      W p l e rm s m As.toArray below meth c s.heap [] 0 0 (MQ below (va_Qv (fun (_ : Unit) => True) (fun _ u => B A u.heap) A) As.toArray s rm.cells rm.slots A) (F0 m 0 ls [])) : CN l D cy t y ws rm w As B := by
  intro sz
  refine Met.ofW (cc := cc) (maxL := maxL) (ret := ret) hy hw ?_
  intro p e s m args below meth c s₁ b hml hv
  obtain ⟨rfl, hsz, hP, hD, hG, hF⟩ := hv
  subst hsz
  have hl := lv_entry As (n := maxL) hlen
  rw [lg_entry_eq]
  exact k p e s m below meth c b.exec b.bytes hml b.returns (atoms_spec (ws := ws) b.pre) (findClass_of_methodNamed b.named) b.notSynchronized (name_of_methodNamed b.named b.method).1 hP hG _ hl _ (hD.self (sz := s.heap.size)) (fun q h => Or.inr h) va_S.rf hF
end CNB
section CNW
variable {p : Program} {l : Launch} {e : Env} {R : Room} {s : State} {m : MethodId} {args : Array Value} {below : List Frame} {meth : Method} {c : Code} {H : Heap} {locs : List Loc} {cells slots : Nat} {Q : State → Prop}
variable {pc : Nat} {ls : Array Slot} {rest : List Value} {D : va_G} {cy : Nat → ClassId} {cc : ByteArray} {cl : List vw_C} {A : Nat → Prop} {ws : va_W} {H0 : Heap} {t : FxA}
/-- newarray of a class that is known already -/
theorem nw_arr {tys : List (ClassId × FieldType)} (hexec : p.tables.exec = Jvm.exec) (hb : c.code = cc) {atype : ArrayType} (harr : (Cond.arrayClass (newarray.typeOf atype)).before args s = true) {ty : FieldType} (hty : newarray.typeOf atype = ty) {nm : String} (hR : ∀ cA : ClassId, va_RA s cA ty → s.vm.findClass nm = some cA) (t0 : Nat) {c0 : ClassId} (ht0 : tys[t0]? = some (c0, ty)) (hK : va_K D cl tys s) (hP : va_P D cl ws H) (hD : va_D A ws) (hS : va_S A H0 H locs) (hA : ∀ q, H0.size ≤ q → A q)
    {n : Int32} {N' : Nat} {a0 : vp_A} (ha : ∀ cA : ClassId, vp_cell cA a0 = arrV cA N' (fun _ => defaultValue ty)) (hn : ¬ n < 0) (hN : n.toNatClampNeg = N') (hbytes : N' * componentBytes ty ≤ 536870912) (hcells : cells + 1 ≤ R.cells) (hslots : slots + N' ≤ R.slots) (hdg : decode cc pc = .ok (.newarray atype, 2))
    (kk : ∀ (q : Nat) (H1 : Heap), va_P D cl (ws ++ [(q, .inl (c0, a0))]) H1 → va_D A (ws ++ [(q, .inl (c0, a0))]) → va_S A H0 H1 locs →
      W p l e R s m args below meth c H1 locs (cells + 1) (slots + N') Q (F0 m (pc + 2) ls (.ref q :: rest))) : W p l e R s m args below meth c H locs cells slots Q (F0 m pc ls (.int n :: rest)) := by
  refine va_newa hexec hb harr hty hK hP hD hS hA ha hn hN hbytes hcells hslots hdg (fun q cA H1 hK1 hP1 hD1 hS1 => ?_)
  have e1 := hR _ (hK1.2 tys.length (cA, ty) (by rw [List.getElem?_append_right (Nat.le_refl _), Nat.sub_self]; rfl)).2
  have e2 := hR _ (hK.2 t0 _ ht0).2
  have e : cA = c0 := Option.some.inj (e1.symm.trans e2)
  subst e
  exact kk q H1 hP1 hD1 hS1
theorem nw_arq {tys : List (ClassId × FieldType)} (hexec : p.tables.exec = Jvm.exec) (hb : c.code = cc) {own C : String} {index : Nat} (hown : s.vm.findClass own = some m.cls) (hclink : (Cond.classLink own index C).before args s = true) (hover : va_AO C s) (t0 : Nat) {c0 : ClassId} (ht0 : tys[t0]? = some (c0, .object C)) (hK : va_K D cl tys s) (hP : va_P D cl ws H) (hD : va_D A ws) (hS : va_S A H0 H locs) (hA : ∀ q, H0.size ≤ q → A q)
    {n : Int32} {N' : Nat} (hn : ¬ n < 0) (hN : n.toNatClampNeg = N') (hbytes : N' * 4 ≤ 536870912) (hcells : cells + 1 ≤ R.cells) (hslots : slots + N' ≤ R.slots) (hdg : decode cc pc = .ok (.anewarray index, 3))
    (kk : ∀ (q : Nat) (H1 : Heap), va_P D cl (ws ++ [(q, .inl (c0, N', .inr (.inr (.inr (.inr (fun _ => none))))))]) H1 → va_D A (ws ++ [(q, .inl (c0, N', .inr (.inr (.inr (.inr (fun _ => none))))))]) → va_S A H0 H1 locs →
      W p l e R s m args below meth c H1 locs (cells + 1) (slots + N') Q (F0 m (pc + 3) ls (.ref q :: rest))) : W p l e R s m args below meth c H locs cells slots Q (F0 m pc ls (.int n :: rest)) := by
  refine va_newq hexec hb hown hclink hover hK hP hD hS hA hn hN hbytes hcells hslots hdg (fun q cA H1 hK1 hP1 hD1 hS1 => ?_)
  obtain ⟨-, -, -, -, -, e1⟩ := (hK1.2 tys.length (cA, .object C) (by rw [List.getElem?_append_right (Nat.le_refl _), Nat.sub_self]; rfl)).2
  obtain ⟨-, -, -, -, -, e2⟩ := (hK.2 t0 _ ht0).2
  have e : cA = c0 := Option.some.inj (e1.symm.trans e2)
  subst e
  exact kk q H1 hP1 hD1 hS1
variable {y : MethodName} {bytes : ByteArray} {maxL nL index : Nat} {wy ws' : List Cond} {rm : Room} {Ts : List Cond} {own host : String} {b : Addr} {st0 : List Value} {wc wr : va_W} {B : (Nat → Prop) → Heap → Prop}
/-- a constructor of a nest mate is called on an object that was made just now: it lies at the end of the world -/
theorem cnN (hc : CN l D cy t y wy rm wc [.ref b] B) (S : CallFix p m c cc nL s args Ts own) (hT : GoodIn Ts wy) (hlk : va_Nw (.methodLinkNest own index y host) s) (hini : (Cond.initialized y.cls).before args s = true) (him : (Cond.instanceMethod y).before args s = true) (hnm : y.name = "<init>") (hw : wy = Cond.code y bytes maxL none :: ws')
    (hd : y.cls ≠ "java/lang/invoke/MethodHandle" ∧ y.cls ≠ "java/lang/invoke/VarHandle" ∧ (parseMethodDescriptor y.desc).map (fun d => d.parameters.length) = some 0) (hrm : rm.frames + 1 ≤ R.frames ∧ 8 + (maxL + 11) + rm.locals ≤ R.locals) (hG : GK D cy s) (hF : FX t A s s.heap) (hP : va_P D vwCl (wr ++ wc) H) (hD : va_D A (wr ++ wc)) (hS : va_S A s.heap H locs) (hA : ∀ q, s.heap.size ≤ q → A q)
    (hsize : ls.size = nL) (hst : st0 = .ref b :: rest) (hW : (rest.map fun v => v.category).sum ≤ 8) (hdg : decode cc pc = .ok (.invokespecial index, 3)) (hf : cells + rm.cells ≤ R.cells ∧ slots + rm.slots ≤ R.slots)
    (kk : ∀ (H1 : Heap) (locs1 : List Loc), va_P D vwCl wr H1 → va_D A wr → va_S A s.heap H1 locs1 → (∀ w1 : va_W, va_P D vwCl w1 H1 → va_D (va_A wc H.size) w1 → va_P D vwCl (wr ++ w1) H1 ∧ va_D A (wr ++ w1)) → B (va_A wc H.size) H1 → W p l e R s m args below meth c H1 locs1 (cells + rm.cells) (slots + rm.slots) Q (F0 m (pc + 3) ls rest)) : W p l e R s m args below meth c H locs cells slots Q (F0 m pc ls st0) := by
  subst hst
  have hPc := va_P_right hP
  have hDc := va_D_right hD
  have hfr : ∀ q, va_A wc H.size q → A q := fun q z => w_free hD hS hA q (ctx_A (r := wr) List.perm_append_comm q z)
  refine va_callv (va_runIN (As := []) (rest := rest) S (hc H.size) ⟨va_cnB 0 S.2.2.2.2 hT hw rfl rfl hlk hini hd hrm, hnm, him⟩ (pre_muf hG hF hS hPc hDc hfr) rfl rfl hsize rfl (lv_room hW) hdg hf) hS (fun q _ h => hfr q h) hfr (fun u t1 H1 locs1 ht hvm hw hB hz hk hS1 => ?_)
  have hB : B (va_A wc H.size) t1.heap := hB
  rw [ht] at hB
  have out : ∀ q ∈ wr, q.1 < H.size ∧ ¬ va_A wc H.size q.1 := by
    intro q hq
    have kl := (va_P_mem hP (List.mem_append_left _ hq)).lt
    refine ⟨kl, fun z => ?_⟩
    rcases z with ⟨j, e9, hj⟩ | z
    · have nd := (va_D_iff.mp hD).1
      rw [List.map_append] at nd
      exact (List.pairwise_append.mp nd).2.2 _ (List.mem_map_of_mem (f := Prod.fst) hq) _ (List.mem_map_of_mem (f := Prod.fst) (List.mem_of_getElem? hj)) rfl
    · omega
  have hPr : va_P D vwCl wr H1 := va_P_of (fun q hq => (va_P_mem hP (List.mem_append_left _ hq)).kept (hk q.1 (out q hq).1 (out q hq).2))
  have hDr := va_D_left hD
  refine kk H1 locs1 hPr hDr hS1 (fun w1 hP1 hD1 => ⟨hPr.app hP1, ?_⟩) hB
  rw [va_D_iff] at hDr hD1 ⊢
  refine ⟨?_, fun q hq => ?_⟩
  · rw [List.map_append]
    refine List.pairwise_append.mpr ⟨hDr.1, hD1.1, fun x hx z hz e9 => ?_⟩
    obtain ⟨q1, g1, rfl⟩ := List.mem_map.mp hx
    obtain ⟨q2, g2, rfl⟩ := List.mem_map.mp hz
    exact (out q1 g1).2 (by rw [e9]; exact hD1.2 q2 g2)
  · rcases List.mem_append.mp hq with h | h
    · exact hDr.2 q h
    · exact hfr _ (hD1.2 q h)
end CNW
def un0 : UnT := (fun _ => 0, fun _ => 0, fun _ => 0, fun _ => 0, fun _ => 0, 0)
def co0 : CoT := (fun _ => 0, fun _ => 0, fun _ => 0)
def tx0 : TxT := (fun _ => 0, 0, 0, 0, 0, 0, 0)
def at_X7 (D : va_G) (cy : Nat → ClassId) (a : Nat) (A : Nat → Prop) (H : Heap) : Prop := ∃ q0 q1 q2 q3 q4 : Nat, va_P D vwCl (wUn cy a q0 q1 q2 q3 q4 un0) H ∧ va_D A (wUn cy a q0 q1 q2 q3 q4 un0)
theorem hd_X7_init : yX7_init.cls ≠ "java/lang/invoke/MethodHandle" ∧ yX7_init.cls ≠ "java/lang/invoke/VarHandle" ∧ (parseMethodDescriptor yX7_init.desc).map (fun d => d.parameters.length) = some 0 := by decide +kernel
set_option maxRecDepth 20000 in
theorem c_X7_init (l : Launch) (D : va_G) (cy : Nat → ClassId) (t : FxA) (a : Nat) : CN l D cy t yX7_init wsX7_init ({ frames := 1, cells := 5, slots := 80, locals := 40 } : Room) [(a, .inr (5, [.null, .null, .null, .null, .null, .int 0]))] [.ref a] (at_X7 D cy a) := by
  refine CN.body (by decide) rfl (Nat.le_of_ble_eq_true rfl) ?_
  intro p e s m below meth c hx hb hml hr hts hown hlocks hnm hP hG ls hl A hD hA hS hF
  have hl : lv_has ls 1 [(0, .ref a)] := hl
  have in_X7 : ∀ w ∈ u_ws RX7 TX7 6, w ∈ wsX7_init := fun _ h => List.mem_cons_of_mem _ (List.mem_append_right _ h)
  have ko := hts (Cond.methodLink RX7 3 objectInit) (List.mem_of_getElem? (i := 1) rfl)
  have ki := hts (Cond.instanceMethod objectInit) (List.mem_of_getElem? (i := 2) rfl)
  have kc := hts (Cond.code objectInit ⟨#[0xb1]⟩ 1 none) (List.mem_of_getElem? (i := 3) rfl)
  have ka := hts (Cond.arrayClass .int) (List.mem_of_getElem? (i := 4) rfl)
  have kf0 := hts (Cond.fieldLink RX7 9 "SparePool$Units" "kind" "[I") (List.mem_of_getElem? (i := 5) rfl)
  have kf1 := hts (Cond.fieldLink RX7 15 "SparePool$Units" "owner" "[I") (List.mem_of_getElem? (i := 6) rfl)
  have kf2 := hts (Cond.fieldLink RX7 18 "SparePool$Units" "place" "[I") (List.mem_of_getElem? (i := 7) rfl)
  have kf3 := hts (Cond.fieldLink RX7 21 "SparePool$Units" "parts" "[I") (List.mem_of_getElem? (i := 8) rfl)
  have kf4 := hts (Cond.fieldLink RX7 24 "SparePool$Units" "due" "[I") (List.mem_of_getElem? (i := 9) rfl)
  refine lv_aload_n hx hb dX7_init_0 rfl (lv_at hl 0 rfl) ?_
  refine W.objInit hx hb hown ko ki kc rfl (by rw [hml]; exact hl.1) rfl dX7_init_1 (Nat.le_of_ble_eq_true rfl) (Nat.le_of_ble_eq_true rfl) ?_
  refine W.eq (g2 := F0 m 4 ls []) rfl ?_
  refine lv_aload_n hx hb dX7_init_4 rfl (lv_at hl 0 rfl) ?_
  refine lv_bipush (v := (16 : Int32)) hx hb dX7_init_5 (by decide) ?_
  refine nw_arr (atype := .int) (ty := .int) (a0 := (16, .inl (fun _ => 0))) hx hb ka rfl (fun _ h9 => h9) 0 rfl hG.1 hP hD hS hA (fun _ => rfl) (by decide) (by decide) (Nat.le_of_ble_eq_true rfl) (Nat.le_of_ble_eq_true rfl) (Nat.le_of_ble_eq_true rfl) dX7_init_7 (fun q0 H hP hD hS => ?_)
  have hP : va_P D vwCl [(a, .inr (5, [.null, .null, .null, .null, .null, .int 0])), (q0, .inl (cy 0, 16, .inl (fun _ => 0)))] H := hP
  have hD : va_D A [(a, .inr (5, [.null, .null, .null, .null, .null, .int 0])), (q0, .inl (cy 0, 16, .inl (fun _ => 0)))] := hD
  refine W.widen (k := 1) (n := 16) (by omega) (by omega) ?_
  refine va_putF (D := D) (ci := 5) (v := .ref q0) (ty := .array .int) (C := RX7) (T := TX7) (N := 6) hx hb hts in_X7 tyX7 tyX7_ok nmX7 hown hG.1 hP hD hS 0 rfl rfl 0 (by decide) kf0 (fun _ h9 => h9) rfl hnm rfl (by decide +kernel) rfl rfl (Nat.le_of_ble_eq_true rfl) dX7_init_9 (fun H locs hP hD hS => ?_)
  have hP : va_P D vwCl [(a, .inr (5, [.ref q0, .null, .null, .null, .null, .int 0])), (q0, .inl (cy 0, 16, .inl (fun _ => 0)))] H := hP
  have hD : va_D A [(a, .inr (5, [.ref q0, .null, .null, .null, .null, .int 0])), (q0, .inl (cy 0, 16, .inl (fun _ => 0)))] := hD
  refine lv_aload_n hx hb dX7_init_12 rfl (lv_at hl 0 rfl) ?_
  refine lv_bipush (v := (16 : Int32)) hx hb dX7_init_13 (by decide) ?_
  refine nw_arr (atype := .int) (ty := .int) (a0 := (16, .inl (fun _ => 0))) hx hb ka rfl (fun _ h9 => h9) 0 rfl hG.1 hP hD hS hA (fun _ => rfl) (by decide) (by decide) (Nat.le_of_ble_eq_true rfl) (Nat.le_of_ble_eq_true rfl) (Nat.le_of_ble_eq_true rfl) dX7_init_15 (fun q1 H hP hD hS => ?_)
  have hP : va_P D vwCl [(a, .inr (5, [.ref q0, .null, .null, .null, .null, .int 0])), (q0, .inl (cy 0, 16, .inl (fun _ => 0))), (q1, .inl (cy 0, 16, .inl (fun _ => 0)))] H := hP
  have hD : va_D A [(a, .inr (5, [.ref q0, .null, .null, .null, .null, .int 0])), (q0, .inl (cy 0, 16, .inl (fun _ => 0))), (q1, .inl (cy 0, 16, .inl (fun _ => 0)))] := hD
  refine W.widen (k := 2) (n := 32) (by omega) (by omega) ?_
  refine va_putF (D := D) (ci := 5) (v := .ref q1) (ty := .array .int) (C := RX7) (T := TX7) (N := 6) hx hb hts in_X7 tyX7 tyX7_ok nmX7 hown hG.1 hP hD hS 0 rfl rfl 1 (by decide) kf1 (fun _ h9 => h9) rfl hnm rfl (by decide +kernel) rfl rfl (Nat.le_of_ble_eq_true rfl) dX7_init_17 (fun H locs hP hD hS => ?_)
  have hP : va_P D vwCl [(a, .inr (5, [.ref q0, .ref q1, .null, .null, .null, .int 0])), (q0, .inl (cy 0, 16, .inl (fun _ => 0))), (q1, .inl (cy 0, 16, .inl (fun _ => 0)))] H := hP
  have hD : va_D A [(a, .inr (5, [.ref q0, .ref q1, .null, .null, .null, .int 0])), (q0, .inl (cy 0, 16, .inl (fun _ => 0))), (q1, .inl (cy 0, 16, .inl (fun _ => 0)))] := hD
  refine lv_aload_n hx hb dX7_init_20 rfl (lv_at hl 0 rfl) ?_
  refine lv_bipush (v := (16 : Int32)) hx hb dX7_init_21 (by decide) ?_
  refine nw_arr (atype := .int) (ty := .int) (a0 := (16, .inl (fun _ => 0))) hx hb ka rfl (fun _ h9 => h9) 0 rfl hG.1 hP hD hS hA (fun _ => rfl) (by decide) (by decide) (Nat.le_of_ble_eq_true rfl) (Nat.le_of_ble_eq_true rfl) (Nat.le_of_ble_eq_true rfl) dX7_init_23 (fun q2 H hP hD hS => ?_)
  have hP : va_P D vwCl [(a, .inr (5, [.ref q0, .ref q1, .null, .null, .null, .int 0])), (q0, .inl (cy 0, 16, .inl (fun _ => 0))), (q1, .inl (cy 0, 16, .inl (fun _ => 0))), (q2, .inl (cy 0, 16, .inl (fun _ => 0)))] H := hP
  have hD : va_D A [(a, .inr (5, [.ref q0, .ref q1, .null, .null, .null, .int 0])), (q0, .inl (cy 0, 16, .inl (fun _ => 0))), (q1, .inl (cy 0, 16, .inl (fun _ => 0))), (q2, .inl (cy 0, 16, .inl (fun _ => 0)))] := hD
  refine W.widen (k := 3) (n := 48) (by omega) (by omega) ?_
  refine va_putF (D := D) (ci := 5) (v := .ref q2) (ty := .array .int) (C := RX7) (T := TX7) (N := 6) hx hb hts in_X7 tyX7 tyX7_ok nmX7 hown hG.1 hP hD hS 0 rfl rfl 2 (by decide) kf2 (fun _ h9 => h9) rfl hnm rfl (by decide +kernel) rfl rfl (Nat.le_of_ble_eq_true rfl) dX7_init_25 (fun H locs hP hD hS => ?_)
  have hP : va_P D vwCl [(a, .inr (5, [.ref q0, .ref q1, .ref q2, .null, .null, .int 0])), (q0, .inl (cy 0, 16, .inl (fun _ => 0))), (q1, .inl (cy 0, 16, .inl (fun _ => 0))), (q2, .inl (cy 0, 16, .inl (fun _ => 0)))] H := hP
  have hD : va_D A [(a, .inr (5, [.ref q0, .ref q1, .ref q2, .null, .null, .int 0])), (q0, .inl (cy 0, 16, .inl (fun _ => 0))), (q1, .inl (cy 0, 16, .inl (fun _ => 0))), (q2, .inl (cy 0, 16, .inl (fun _ => 0)))] := hD
  refine lv_aload_n hx hb dX7_init_28 rfl (lv_at hl 0 rfl) ?_
  refine lv_bipush (v := (16 : Int32)) hx hb dX7_init_29 (by decide) ?_
  refine nw_arr (atype := .int) (ty := .int) (a0 := (16, .inl (fun _ => 0))) hx hb ka rfl (fun _ h9 => h9) 0 rfl hG.1 hP hD hS hA (fun _ => rfl) (by decide) (by decide) (Nat.le_of_ble_eq_true rfl) (Nat.le_of_ble_eq_true rfl) (Nat.le_of_ble_eq_true rfl) dX7_init_31 (fun q3 H hP hD hS => ?_)
  have hP : va_P D vwCl [(a, .inr (5, [.ref q0, .ref q1, .ref q2, .null, .null, .int 0])), (q0, .inl (cy 0, 16, .inl (fun _ => 0))), (q1, .inl (cy 0, 16, .inl (fun _ => 0))), (q2, .inl (cy 0, 16, .inl (fun _ => 0))), (q3, .inl (cy 0, 16, .inl (fun _ => 0)))] H := hP
  have hD : va_D A [(a, .inr (5, [.ref q0, .ref q1, .ref q2, .null, .null, .int 0])), (q0, .inl (cy 0, 16, .inl (fun _ => 0))), (q1, .inl (cy 0, 16, .inl (fun _ => 0))), (q2, .inl (cy 0, 16, .inl (fun _ => 0))), (q3, .inl (cy 0, 16, .inl (fun _ => 0)))] := hD
  refine W.widen (k := 4) (n := 64) (by omega) (by omega) ?_
  refine va_putF (D := D) (ci := 5) (v := .ref q3) (ty := .array .int) (C := RX7) (T := TX7) (N := 6) hx hb hts in_X7 tyX7 tyX7_ok nmX7 hown hG.1 hP hD hS 0 rfl rfl 3 (by decide) kf3 (fun _ h9 => h9) rfl hnm rfl (by decide +kernel) rfl rfl (Nat.le_of_ble_eq_true rfl) dX7_init_33 (fun H locs hP hD hS => ?_)
  have hP : va_P D vwCl [(a, .inr (5, [.ref q0, .ref q1, .ref q2, .ref q3, .null, .int 0])), (q0, .inl (cy 0, 16, .inl (fun _ => 0))), (q1, .inl (cy 0, 16, .inl (fun _ => 0))), (q2, .inl (cy 0, 16, .inl (fun _ => 0))), (q3, .inl (cy 0, 16, .inl (fun _ => 0)))] H := hP
  have hD : va_D A [(a, .inr (5, [.ref q0, .ref q1, .ref q2, .ref q3, .null, .int 0])), (q0, .inl (cy 0, 16, .inl (fun _ => 0))), (q1, .inl (cy 0, 16, .inl (fun _ => 0))), (q2, .inl (cy 0, 16, .inl (fun _ => 0))), (q3, .inl (cy 0, 16, .inl (fun _ => 0)))] := hD
  refine lv_aload_n hx hb dX7_init_36 rfl (lv_at hl 0 rfl) ?_
  refine lv_bipush (v := (16 : Int32)) hx hb dX7_init_37 (by decide) ?_
  refine nw_arr (atype := .int) (ty := .int) (a0 := (16, .inl (fun _ => 0))) hx hb ka rfl (fun _ h9 => h9) 0 rfl hG.1 hP hD hS hA (fun _ => rfl) (by decide) (by decide) (Nat.le_of_ble_eq_true rfl) (Nat.le_of_ble_eq_true rfl) (Nat.le_of_ble_eq_true rfl) dX7_init_39 (fun q4 H hP hD hS => ?_)
  have hP : va_P D vwCl [(a, .inr (5, [.ref q0, .ref q1, .ref q2, .ref q3, .null, .int 0])), (q0, .inl (cy 0, 16, .inl (fun _ => 0))), (q1, .inl (cy 0, 16, .inl (fun _ => 0))), (q2, .inl (cy 0, 16, .inl (fun _ => 0))), (q3, .inl (cy 0, 16, .inl (fun _ => 0))), (q4, .inl (cy 0, 16, .inl (fun _ => 0)))] H := hP
  have hD : va_D A [(a, .inr (5, [.ref q0, .ref q1, .ref q2, .ref q3, .null, .int 0])), (q0, .inl (cy 0, 16, .inl (fun _ => 0))), (q1, .inl (cy 0, 16, .inl (fun _ => 0))), (q2, .inl (cy 0, 16, .inl (fun _ => 0))), (q3, .inl (cy 0, 16, .inl (fun _ => 0))), (q4, .inl (cy 0, 16, .inl (fun _ => 0)))] := hD
  refine W.widen (k := 5) (n := 80) (by omega) (by omega) ?_
  refine va_putF (D := D) (ci := 5) (v := .ref q4) (ty := .array .int) (C := RX7) (T := TX7) (N := 6) hx hb hts in_X7 tyX7 tyX7_ok nmX7 hown hG.1 hP hD hS 0 rfl rfl 4 (by decide) kf4 (fun _ h9 => h9) rfl hnm rfl (by decide +kernel) rfl rfl (Nat.le_of_ble_eq_true rfl) dX7_init_41 (fun H locs hP hD hS => ?_)
  have hP : va_P D vwCl [(a, .inr (5, [.ref q0, .ref q1, .ref q2, .ref q3, .ref q4, .int 0])), (q0, .inl (cy 0, 16, .inl (fun _ => 0))), (q1, .inl (cy 0, 16, .inl (fun _ => 0))), (q2, .inl (cy 0, 16, .inl (fun _ => 0))), (q3, .inl (cy 0, 16, .inl (fun _ => 0))), (q4, .inl (cy 0, 16, .inl (fun _ => 0)))] H := hP
  have hD : va_D A [(a, .inr (5, [.ref q0, .ref q1, .ref q2, .ref q3, .ref q4, .int 0])), (q0, .inl (cy 0, 16, .inl (fun _ => 0))), (q1, .inl (cy 0, 16, .inl (fun _ => 0))), (q2, .inl (cy 0, 16, .inl (fun _ => 0))), (q3, .inl (cy 0, 16, .inl (fun _ => 0))), (q4, .inl (cy 0, 16, .inl (fun _ => 0)))] := hD
  exact W.vret hx hb hr (fun u hu _ => ⟨⟨(), rfl, trivial, by show at_X7 D cy a A u.heap; rw [hu]; exact ⟨q0, q1, q2, q3, q4, hP, hD⟩⟩, hS.F hu⟩) hS.2.2 dX7_init_44 hlocks
def at_X0 (D : va_G) (cy : Nat → ClassId) (a : Nat) (A : Nat → Prop) (H : Heap) : Prop := ∃ q0 q1 q2 : Nat, va_P D vwCl (wCo cy a q0 q1 q2 co0) H ∧ va_D A (wCo cy a q0 q1 q2 co0)
theorem hd_X0_init : yX0_init.cls ≠ "java/lang/invoke/MethodHandle" ∧ yX0_init.cls ≠ "java/lang/invoke/VarHandle" ∧ (parseMethodDescriptor yX0_init.desc).map (fun d => d.parameters.length) = some 0 := by decide +kernel
set_option maxRecDepth 20000 in
theorem c_X0_init (l : Launch) (D : va_G) (cy : Nat → ClassId) (t : FxA) (a : Nat) : CN l D cy t yX0_init wsX0_init ({ frames := 1, cells := 3, slots := 65, locals := 40 } : Room) [(a, .inr (0, [.null, .null, .null]))] [.ref a] (at_X0 D cy a) := by
  refine CN.body (by decide) rfl (Nat.le_of_ble_eq_true rfl) ?_
  intro p e s m below meth c hx hb hml hr hts hown hlocks hnm hP hG ls hl A hD hA hS hF
  have hl : lv_has ls 1 [(0, .ref a)] := hl
  have in_X0 : ∀ w ∈ u_ws RX0 TX0 3, w ∈ wsX0_init := fun _ h => List.mem_cons_of_mem _ (List.mem_append_right _ h)
  have ko := hts (Cond.methodLink RX0 3 objectInit) (List.mem_of_getElem? (i := 1) rfl)
  have ki := hts (Cond.instanceMethod objectInit) (List.mem_of_getElem? (i := 2) rfl)
  have kc := hts (Cond.code objectInit ⟨#[0xb1]⟩ 1 none) (List.mem_of_getElem? (i := 3) rfl)
  have ka := hts (Cond.arrayClass .int) (List.mem_of_getElem? (i := 4) rfl)
  have kf0 := hts (Cond.fieldLink RX0 9 "SparePool$Cores" "kind" "[I") (List.mem_of_getElem? (i := 5) rfl)
  have kf1 := hts (Cond.fieldLink RX0 15 "SparePool$Cores" "due" "[I") (List.mem_of_getElem? (i := 6) rfl)
  have kf2 := hts (Cond.fieldLink RX0 18 "SparePool$Cores" "count" "[I") (List.mem_of_getElem? (i := 7) rfl)
  refine lv_aload_n hx hb dX0_init_0 rfl (lv_at hl 0 rfl) ?_
  refine W.objInit hx hb hown ko ki kc rfl (by rw [hml]; exact hl.1) rfl dX0_init_1 (Nat.le_of_ble_eq_true rfl) (Nat.le_of_ble_eq_true rfl) ?_
  refine W.eq (g2 := F0 m 4 ls []) rfl ?_
  refine lv_aload_n hx hb dX0_init_4 rfl (lv_at hl 0 rfl) ?_
  refine lv_bipush (v := (30 : Int32)) hx hb dX0_init_5 (by decide) ?_
  refine nw_arr (atype := .int) (ty := .int) (a0 := (30, .inl (fun _ => 0))) hx hb ka rfl (fun _ h9 => h9) 0 rfl hG.1 hP hD hS hA (fun _ => rfl) (by decide) (by decide) (Nat.le_of_ble_eq_true rfl) (Nat.le_of_ble_eq_true rfl) (Nat.le_of_ble_eq_true rfl) dX0_init_7 (fun q0 H hP hD hS => ?_)
  have hP : va_P D vwCl [(a, .inr (0, [.null, .null, .null])), (q0, .inl (cy 0, 30, .inl (fun _ => 0)))] H := hP
  have hD : va_D A [(a, .inr (0, [.null, .null, .null])), (q0, .inl (cy 0, 30, .inl (fun _ => 0)))] := hD
  refine W.widen (k := 1) (n := 30) (by omega) (by omega) ?_
  refine va_putF (D := D) (ci := 0) (v := .ref q0) (ty := .array .int) (C := RX0) (T := TX0) (N := 3) hx hb hts in_X0 tyX0 tyX0_ok nmX0 hown hG.1 hP hD hS 0 rfl rfl 0 (by decide) kf0 (fun _ h9 => h9) rfl hnm rfl (by decide +kernel) rfl rfl (Nat.le_of_ble_eq_true rfl) dX0_init_9 (fun H locs hP hD hS => ?_)
  have hP : va_P D vwCl [(a, .inr (0, [.ref q0, .null, .null])), (q0, .inl (cy 0, 30, .inl (fun _ => 0)))] H := hP
  have hD : va_D A [(a, .inr (0, [.ref q0, .null, .null])), (q0, .inl (cy 0, 30, .inl (fun _ => 0)))] := hD
  refine lv_aload_n hx hb dX0_init_12 rfl (lv_at hl 0 rfl) ?_
  refine lv_bipush (v := (30 : Int32)) hx hb dX0_init_13 (by decide) ?_
  refine nw_arr (atype := .int) (ty := .int) (a0 := (30, .inl (fun _ => 0))) hx hb ka rfl (fun _ h9 => h9) 0 rfl hG.1 hP hD hS hA (fun _ => rfl) (by decide) (by decide) (Nat.le_of_ble_eq_true rfl) (Nat.le_of_ble_eq_true rfl) (Nat.le_of_ble_eq_true rfl) dX0_init_15 (fun q1 H hP hD hS => ?_)
  have hP : va_P D vwCl [(a, .inr (0, [.ref q0, .null, .null])), (q0, .inl (cy 0, 30, .inl (fun _ => 0))), (q1, .inl (cy 0, 30, .inl (fun _ => 0)))] H := hP
  have hD : va_D A [(a, .inr (0, [.ref q0, .null, .null])), (q0, .inl (cy 0, 30, .inl (fun _ => 0))), (q1, .inl (cy 0, 30, .inl (fun _ => 0)))] := hD
  refine W.widen (k := 2) (n := 60) (by omega) (by omega) ?_
  refine va_putF (D := D) (ci := 0) (v := .ref q1) (ty := .array .int) (C := RX0) (T := TX0) (N := 3) hx hb hts in_X0 tyX0 tyX0_ok nmX0 hown hG.1 hP hD hS 0 rfl rfl 1 (by decide) kf1 (fun _ h9 => h9) rfl hnm rfl (by decide +kernel) rfl rfl (Nat.le_of_ble_eq_true rfl) dX0_init_17 (fun H locs hP hD hS => ?_)
  have hP : va_P D vwCl [(a, .inr (0, [.ref q0, .ref q1, .null])), (q0, .inl (cy 0, 30, .inl (fun _ => 0))), (q1, .inl (cy 0, 30, .inl (fun _ => 0)))] H := hP
  have hD : va_D A [(a, .inr (0, [.ref q0, .ref q1, .null])), (q0, .inl (cy 0, 30, .inl (fun _ => 0))), (q1, .inl (cy 0, 30, .inl (fun _ => 0)))] := hD
  refine lv_aload_n hx hb dX0_init_20 rfl (lv_at hl 0 rfl) ?_
  refine lv_iconst (v := (5 : Int32)) hx hb dX0_init_21 (by decide) ?_
  refine nw_arr (atype := .int) (ty := .int) (a0 := (5, .inl (fun _ => 0))) hx hb ka rfl (fun _ h9 => h9) 0 rfl hG.1 hP hD hS hA (fun _ => rfl) (by decide) (by decide) (Nat.le_of_ble_eq_true rfl) (Nat.le_of_ble_eq_true rfl) (Nat.le_of_ble_eq_true rfl) dX0_init_22 (fun q2 H hP hD hS => ?_)
  have hP : va_P D vwCl [(a, .inr (0, [.ref q0, .ref q1, .null])), (q0, .inl (cy 0, 30, .inl (fun _ => 0))), (q1, .inl (cy 0, 30, .inl (fun _ => 0))), (q2, .inl (cy 0, 5, .inl (fun _ => 0)))] H := hP
  have hD : va_D A [(a, .inr (0, [.ref q0, .ref q1, .null])), (q0, .inl (cy 0, 30, .inl (fun _ => 0))), (q1, .inl (cy 0, 30, .inl (fun _ => 0))), (q2, .inl (cy 0, 5, .inl (fun _ => 0)))] := hD
  refine W.widen (k := 3) (n := 65) (by omega) (by omega) ?_
  refine va_putF (D := D) (ci := 0) (v := .ref q2) (ty := .array .int) (C := RX0) (T := TX0) (N := 3) hx hb hts in_X0 tyX0 tyX0_ok nmX0 hown hG.1 hP hD hS 0 rfl rfl 2 (by decide) kf2 (fun _ h9 => h9) rfl hnm rfl (by decide +kernel) rfl rfl (Nat.le_of_ble_eq_true rfl) dX0_init_24 (fun H locs hP hD hS => ?_)
  have hP : va_P D vwCl [(a, .inr (0, [.ref q0, .ref q1, .ref q2])), (q0, .inl (cy 0, 30, .inl (fun _ => 0))), (q1, .inl (cy 0, 30, .inl (fun _ => 0))), (q2, .inl (cy 0, 5, .inl (fun _ => 0)))] H := hP
  have hD : va_D A [(a, .inr (0, [.ref q0, .ref q1, .ref q2])), (q0, .inl (cy 0, 30, .inl (fun _ => 0))), (q1, .inl (cy 0, 30, .inl (fun _ => 0))), (q2, .inl (cy 0, 5, .inl (fun _ => 0)))] := hD
  exact W.vret hx hb hr (fun u hu _ => ⟨⟨(), rfl, trivial, by show at_X0 D cy a A u.heap; rw [hu]; exact ⟨q0, q1, q2, hP, hD⟩⟩, hS.F hu⟩) hS.2.2 dX0_init_27 hlocks
def at_X1 (D : va_G) (cy : Nat → ClassId) (a : Nat) (A : Nat → Prop) (H : Heap) : Prop := ∃ q0 : Nat, va_P D vwCl (wDe cy a q0 (fun _ => (0 : Int32))) H ∧ va_D A (wDe cy a q0 (fun _ => (0 : Int32)))
theorem hd_X1_init : yX1_init.cls ≠ "java/lang/invoke/MethodHandle" ∧ yX1_init.cls ≠ "java/lang/invoke/VarHandle" ∧ (parseMethodDescriptor yX1_init.desc).map (fun d => d.parameters.length) = some 0 := by decide +kernel
set_option maxRecDepth 20000 in
theorem c_X1_init (l : Launch) (D : va_G) (cy : Nat → ClassId) (t : FxA) (a : Nat) : CN l D cy t yX1_init wsX1_init ({ frames := 1, cells := 1, slots := 225, locals := 40 } : Room) [(a, .inr (1, [.null]))] [.ref a] (at_X1 D cy a) := by
  refine CN.body (by decide) rfl (Nat.le_of_ble_eq_true rfl) ?_
  intro p e s m below meth c hx hb hml hr hts hown hlocks hnm hP hG ls hl A hD hA hS hF
  have hl : lv_has ls 1 [(0, .ref a)] := hl
  have in_X1 : ∀ w ∈ u_ws RX1 TX1 1, w ∈ wsX1_init := fun _ h => List.mem_cons_of_mem _ (List.mem_append_right _ h)
  have ko := hts (Cond.methodLink RX1 5 objectInit) (List.mem_of_getElem? (i := 1) rfl)
  have ki := hts (Cond.instanceMethod objectInit) (List.mem_of_getElem? (i := 2) rfl)
  have kc := hts (Cond.code objectInit ⟨#[0xb1]⟩ 1 none) (List.mem_of_getElem? (i := 3) rfl)
  have ka := hts (Cond.arrayClass .int) (List.mem_of_getElem? (i := 4) rfl)
  have kf0 := hts (Cond.fieldLink RX1 11 "SparePool$Debts" "owing" "[I") (List.mem_of_getElem? (i := 5) rfl)
  refine lv_aload_n hx hb dX1_init_0 rfl (lv_at hl 0 rfl) ?_
  refine W.objInit hx hb hown ko ki kc rfl (by rw [hml]; exact hl.1) rfl dX1_init_1 (Nat.le_of_ble_eq_true rfl) (Nat.le_of_ble_eq_true rfl) ?_
  refine W.eq (g2 := F0 m 4 ls []) rfl ?_
  refine lv_aload_n hx hb dX1_init_4 rfl (lv_at hl 0 rfl) ?_
  refine lv_sipush (v := (225 : Int32)) hx hb dX1_init_5 (by decide) ?_
  refine nw_arr (atype := .int) (ty := .int) (a0 := (225, .inl (fun _ => 0))) hx hb ka rfl (fun _ h9 => h9) 0 rfl hG.1 hP hD hS hA (fun _ => rfl) (by decide) (by decide) (Nat.le_of_ble_eq_true rfl) (Nat.le_of_ble_eq_true rfl) (Nat.le_of_ble_eq_true rfl) dX1_init_8 (fun q0 H hP hD hS => ?_)
  have hP : va_P D vwCl [(a, .inr (1, [.null])), (q0, .inl (cy 0, 225, .inl (fun _ => 0)))] H := hP
  have hD : va_D A [(a, .inr (1, [.null])), (q0, .inl (cy 0, 225, .inl (fun _ => 0)))] := hD
  refine W.widen (k := 1) (n := 225) (by omega) (by omega) ?_
  refine va_putF (D := D) (ci := 1) (v := .ref q0) (ty := .array .int) (C := RX1) (T := TX1) (N := 1) hx hb hts in_X1 tyX1 tyX1_ok nmX1 hown hG.1 hP hD hS 0 rfl rfl 0 (by decide) kf0 (fun _ h9 => h9) rfl hnm rfl (by decide +kernel) rfl rfl (Nat.le_of_ble_eq_true rfl) dX1_init_10 (fun H locs hP hD hS => ?_)
  have hP : va_P D vwCl [(a, .inr (1, [.ref q0])), (q0, .inl (cy 0, 225, .inl (fun _ => 0)))] H := hP
  have hD : va_D A [(a, .inr (1, [.ref q0])), (q0, .inl (cy 0, 225, .inl (fun _ => 0)))] := hD
  exact W.vret hx hb hr (fun u hu _ => ⟨⟨(), rfl, trivial, by show at_X1 D cy a A u.heap; rw [hu]; exact ⟨q0, hP, hD⟩⟩, hS.F hu⟩) hS.2.2 dX1_init_13 hlocks
def at_X6 (D : va_G) (cy : Nat → ClassId) (a : Nat) (A : Nat → Prop) (H : Heap) : Prop := ∃ q0 : Nat, va_P D vwCl (wTx cy a q0 tx0) H ∧ va_D A (wTx cy a q0 tx0)
theorem hd_X6_init : yX6_init.cls ≠ "java/lang/invoke/MethodHandle" ∧ yX6_init.cls ≠ "java/lang/invoke/VarHandle" ∧ (parseMethodDescriptor yX6_init.desc).map (fun d => d.parameters.length) = some 0 := by decide +kernel
set_option maxRecDepth 20000 in
theorem c_X6_init (l : Launch) (D : va_G) (cy : Nat → ClassId) (t : FxA) (a : Nat) : CN l D cy t yX6_init wsX6_init ({ frames := 1, cells := 1, slots := 120, locals := 40 } : Room) [(a, .inr (4, [.null, .int 0, .int 0, .int 0, .int 0, .int 0, .int 0]))] [.ref a] (at_X6 D cy a) := by
  refine CN.body (by decide) rfl (Nat.le_of_ble_eq_true rfl) ?_
  intro p e s m below meth c hx hb hml hr hts hown hlocks hnm hP hG ls hl A hD hA hS hF
  have hl : lv_has ls 1 [(0, .ref a)] := hl
  have in_X6 : ∀ w ∈ u_ws RX6 TX6 7, w ∈ wsX6_init := fun _ h => List.mem_cons_of_mem _ (List.mem_append_right _ h)
  have ko := hts (Cond.methodLink RX6 3 objectInit) (List.mem_of_getElem? (i := 1) rfl)
  have ki := hts (Cond.instanceMethod objectInit) (List.mem_of_getElem? (i := 2) rfl)
  have kc := hts (Cond.code objectInit ⟨#[0xb1]⟩ 1 none) (List.mem_of_getElem? (i := 3) rfl)
  have ka := hts (Cond.arrayClass .int) (List.mem_of_getElem? (i := 4) rfl)
  have kf0 := hts (Cond.fieldLink RX6 9 "SparePool$Text" "signs" "[I") (List.mem_of_getElem? (i := 5) rfl)
  refine lv_aload_n hx hb dX6_init_0 rfl (lv_at hl 0 rfl) ?_
  refine W.objInit hx hb hown ko ki kc rfl (by rw [hml]; exact hl.1) rfl dX6_init_1 (Nat.le_of_ble_eq_true rfl) (Nat.le_of_ble_eq_true rfl) ?_
  refine W.eq (g2 := F0 m 4 ls []) rfl ?_
  refine lv_aload_n hx hb dX6_init_4 rfl (lv_at hl 0 rfl) ?_
  refine lv_bipush (v := (120 : Int32)) hx hb dX6_init_5 (by decide) ?_
  refine nw_arr (atype := .int) (ty := .int) (a0 := (120, .inl (fun _ => 0))) hx hb ka rfl (fun _ h9 => h9) 0 rfl hG.1 hP hD hS hA (fun _ => rfl) (by decide) (by decide) (Nat.le_of_ble_eq_true rfl) (Nat.le_of_ble_eq_true rfl) (Nat.le_of_ble_eq_true rfl) dX6_init_7 (fun q0 H hP hD hS => ?_)
  have hP : va_P D vwCl [(a, .inr (4, [.null, .int 0, .int 0, .int 0, .int 0, .int 0, .int 0])), (q0, .inl (cy 0, 120, .inl (fun _ => 0)))] H := hP
  have hD : va_D A [(a, .inr (4, [.null, .int 0, .int 0, .int 0, .int 0, .int 0, .int 0])), (q0, .inl (cy 0, 120, .inl (fun _ => 0)))] := hD
  refine W.widen (k := 1) (n := 120) (by omega) (by omega) ?_
  refine va_putF (D := D) (ci := 4) (v := .ref q0) (ty := .array .int) (C := RX6) (T := TX6) (N := 7) hx hb hts in_X6 tyX6 tyX6_ok nmX6 hown hG.1 hP hD hS 0 rfl rfl 0 (by decide) kf0 (fun _ h9 => h9) rfl hnm rfl (by decide +kernel) rfl rfl (Nat.le_of_ble_eq_true rfl) dX6_init_9 (fun H locs hP hD hS => ?_)
  have hP : va_P D vwCl [(a, .inr (4, [.ref q0, .int 0, .int 0, .int 0, .int 0, .int 0, .int 0])), (q0, .inl (cy 0, 120, .inl (fun _ => 0)))] H := hP
  have hD : va_D A [(a, .inr (4, [.ref q0, .int 0, .int 0, .int 0, .int 0, .int 0, .int 0])), (q0, .inl (cy 0, 120, .inl (fun _ => 0)))] := hD
  exact W.vret hx hb hr (fun u hu _ => ⟨⟨(), rfl, trivial, by show at_X6 D cy a A u.heap; rw [hu]; exact ⟨q0, hP, hD⟩⟩, hS.F hu⟩) hS.2.2 dX6_init_12 hlocks
