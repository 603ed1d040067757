section WROWS
variable {p : Program} {l : Launch} {e : Env} {R : Room} {s : State} {m : MethodId} {args : Array Value} {below : List Frame} {meth : Method} {c : Code} {H : Heap} {locs : List Loc} {cells slots : Nat} {Q : State → Prop}
variable {pc : Nat} {ls : Array Slot} {rest : List Value} {D : va_G} {cy : Nat → ClassId} {cc : ByteArray} {nL : Nat} {t : FxA}
variable {y : MethodName} {bytes : ByteArray} {maxL n index : Nat} {ret : Option FieldType} {wy ws' : List Cond} {rm : Room} {Ts : List Cond} {own : String} {b : Addr} {As : List Value} {st0 : List Value} {W1 W2 : va_W} {v : Int32} {A0 : Nat → Prop}
theorem w_free {H0 : Heap} (hD : va_D A0 W1) (hS : va_S A0 H0 H locs) (hA : ∀ q, H0.size ≤ q → A0 q) : ∀ q, va_A W1 H.size q → A0 q := by
  intro q h
  rcases h with ⟨k, e, h⟩ | h
  · exact hD.2 k (q, e) h
  · exact hA q (Nat.le_trans hS.1 h)
theorem w_adr (ha : W2.map Prod.fst = W1.map Prod.fst) (hD : va_D A0 W1) : va_D A0 W2 := va_D_adr (by rw [ha]) hD
theorem mw_goi {cl : List vw_C} {a : Array Value} {H0 : Heap} (hr : va_Run p l e R s m args below meth c H locs cells slots 0 0 (F0 m pc ls st0) rest (va_Qi (fun r (_ : Unit) => r = v) (fun _ t => va_P D cl W2 t.heap) (va_A W1 H.size) a) (va_A W1 H.size))
    (hD : va_D A0 W1) (hS : va_S A0 H0 H locs) (hA : ∀ q, H0.size ≤ q → A0 q) (ha : W2.map Prod.fst = W1.map Prod.fst)
    (kk : ∀ (H1 : Heap) (locs1 : List Loc), va_P D cl W2 H1 → va_D A0 W2 → va_S A0 H0 H1 locs1 → Wx p l e R s m args below meth c H1 locs1 cells slots Q (F0 m (pc + 3) ls (.int v :: rest))) : Wx p l e R s m args below meth c H locs cells slots Q (F0 m pc ls st0) := by
  have hF := w_free hD hS hA
  refine va_calli hr hS (fun q _ h => hF q h) hF (fun r u t H1 locs1 ht hvm hw hB hz hk hS1 => ?_)
  subst hw
  have hB : va_P D cl W2 t.heap := hB
  rw [ht] at hB
  exact kk H1 locs1 hB (w_adr ha hD) hS1
theorem mw_gov {cl : List vw_C} {a : Array Value} {H0 : Heap} (hr : va_Run p l e R s m args below meth c H locs cells slots 0 0 (F0 m pc ls st0) rest (va_Qv (fun (_ : Unit) => True) (fun _ t => va_P D cl W2 t.heap) (va_A W1 H.size) a) (va_A W1 H.size))
    (hD : va_D A0 W1) (hS : va_S A0 H0 H locs) (hA : ∀ q, H0.size ≤ q → A0 q) (ha : W2.map Prod.fst = W1.map Prod.fst)
    (kk : ∀ (H1 : Heap) (locs1 : List Loc), va_P D cl W2 H1 → va_D A0 W2 → va_S A0 H0 H1 locs1 → Wx p l e R s m args below meth c H1 locs1 cells slots Q (F0 m (pc + 3) ls rest)) : Wx p l e R s m args below meth c H locs cells slots Q (F0 m pc ls st0) := by
  have hF := w_free hD hS hA
  refine va_callv hr hS (fun q _ h => hF q h) hF (fun u t H1 locs1 ht hvm hw hB hz hk hS1 => ?_)
  have hB : va_P D cl W2 t.heap := hB
  rw [ht] at hB
  exact kk H1 locs1 hB (w_adr ha hD) hS1
theorem pre_vm {Pc : Array Value → State → Prop} {q : vw_C} {ci : Nat} {fs : List Value} {C : String} (hG : GK D cy s) (hP : va_P D vwCl W1 H) (hcl : vwCl[ci]? = some q) (hq : q.1 = C) (he : (b, .inr (ci, fs)) ∈ W1) (h : PreS s H Pc (.ref b :: As)) : PreV s H C b Pc As := by
  subst hq
  obtain ⟨k, hk⟩ := List.mem_iff_getElem?.mp he
  exact ⟨h.1, va_recv hG.1 hP hcl hk, h.2⟩
theorem mwV {q : vw_C} {ci : Nat} {fs : List Value} {C : String} (hc : MU l D cy y wy rm W1 W2 (.ref b :: As) v) (S : CallFix p m c cc nL s args Ts own) (hT : GoodIn Ts (wsV own index C y wy)) (hw : wy = Cond.code y bytes maxL ret :: ws') (hd : y.cls = C ∧ y.cls ≠ "java/lang/invoke/MethodHandle" ∧ y.cls ≠ "java/lang/invoke/VarHandle" ∧ (parseMethodDescriptor y.desc).map (fun d => d.parameters.length) = some n) (hrm : rm.cells = 0 ∧ rm.slots = 0 ∧ rm.frames + 1 ≤ R.frames ∧ 8 + (maxL + 11) + rm.locals ≤ R.locals) (hG : GK D cy s)  (hP : va_P D vwCl W1 H) (hD : va_D A0 W1) (hS : va_S A0 s.heap H locs) (hA : ∀ q, s.heap.size ≤ q → A0 q) (ha : W2.map Prod.fst = W1.map Prod.fst) (hcl : vwCl[ci]? = some q) (hq : q.1 = C) (he : (b, .inr (ci, fs)) ∈ W1) (hn : As.length = n) (hsize : ls.size = nL) (hst : st0 = As.reverse ++ .ref b :: rest) (hW : (rest.map fun v => v.category).sum ≤ 8) (hdg : decode cc pc = .ok (.invokevirtual index, 3)) (hf : cells ≤ R.cells ∧ slots ≤ R.slots) (kk : ∀ (H1 : Heap) (locs1 : List Loc), va_P D vwCl W2 H1 → va_D A0 W2 → va_S A0 s.heap H1 locs1 → Wx p l e R s m args below meth c H1 locs1 cells slots Q (F0 m (pc + 3) ls (.int v :: rest))) : Wx p l e R s m args below meth c H locs cells slots Q (F0 m pc ls st0) :=
  mw_goi (va_runV (As := As) (rest := rest) S (hc H.size) (cwV n S.2.2.2.2 hT hw hrm.1 hrm.2.1 hd hrm.2.2) (pre_vm hG hP hcl hq he (pre_mu hG hP hD)) rfl hn hsize hst (lv_room hW) hdg hf) hD hS hA ha kk
theorem mwVN {q : vw_C} {ci : Nat} {fs : List Value} {C host : String} (hc : MU l D cy y wy rm W1 W2 (.ref b :: As) v) (S : CallFix p m c cc nL s args Ts own) (hT : GoodIn Ts wy) (hlk : va_Nw (.methodLinkNest own index y host) s) (hini : (Cond.initialized y.cls).before args s = true) (him : (Cond.instanceMethod y).before args s = true) (hse : (Cond.selects C y y).before args s = true) (hw : wy = Cond.code y bytes maxL ret :: ws') (hd : y.cls = C ∧ y.cls ≠ "java/lang/invoke/MethodHandle" ∧ y.cls ≠ "java/lang/invoke/VarHandle" ∧ (parseMethodDescriptor y.desc).map (fun d => d.parameters.length) = some n) (hrm : rm.cells = 0 ∧ rm.slots = 0 ∧ rm.frames + 1 ≤ R.frames ∧ 8 + (maxL + 11) + rm.locals ≤ R.locals) (hG : GK D cy s)  (hP : va_P D vwCl W1 H) (hD : va_D A0 W1) (hS : va_S A0 s.heap H locs) (hA : ∀ q, s.heap.size ≤ q → A0 q) (ha : W2.map Prod.fst = W1.map Prod.fst) (hcl : vwCl[ci]? = some q) (hq : q.1 = C) (he : (b, .inr (ci, fs)) ∈ W1) (hn : As.length = n) (hsize : ls.size = nL) (hst : st0 = As.reverse ++ .ref b :: rest) (hW : (rest.map fun v => v.category).sum ≤ 8) (hdg : decode cc pc = .ok (.invokevirtual index, 3)) (hf : cells ≤ R.cells ∧ slots ≤ R.slots) (kk : ∀ (H1 : Heap) (locs1 : List Loc), va_P D vwCl W2 H1 → va_D A0 W2 → va_S A0 s.heap H1 locs1 → Wx p l e R s m args below meth c H1 locs1 cells slots Q (F0 m (pc + 3) ls (.int v :: rest))) : Wx p l e R s m args below meth c H locs cells slots Q (F0 m pc ls st0) :=
  mw_goi (va_runVN (As := As) (rest := rest) S (hc H.size) ⟨va_cnB n S.2.2.2.2 hT hw hrm.1 hrm.2.1 hlk hini hd.2 hrm.2.2, him, hse⟩ (pre_vm hG hP hcl hq he (pre_mu hG hP hD)) rfl hn hsize hst (lv_room hW) hdg hf) hD hS hA ha kk
theorem mwSN {host : String} (hc : MU l D cy y wy rm W1 W2 As v) (S : CallFix p m c cc nL s args Ts own) (hT : GoodIn Ts wy) (hlk : va_Nw (.methodLinkNest own index y host) s) (hini : (Cond.initialized y.cls).before args s = true) (hstt : (Cond.static y).before args s = true) (hw : wy = Cond.code y bytes maxL ret :: ws') (hd : y.cls ≠ "java/lang/invoke/MethodHandle" ∧ y.cls ≠ "java/lang/invoke/VarHandle" ∧ (parseMethodDescriptor y.desc).map (fun d => d.parameters.length) = some n) (hrm : rm.cells = 0 ∧ rm.slots = 0 ∧ rm.frames + 1 ≤ R.frames ∧ 8 + (maxL + 11) + rm.locals ≤ R.locals) (hG : GK D cy s)  (hP : va_P D vwCl W1 H) (hD : va_D A0 W1) (hS : va_S A0 s.heap H locs) (hA : ∀ q, s.heap.size ≤ q → A0 q) (ha : W2.map Prod.fst = W1.map Prod.fst) (hn : As.length = n) (hsize : ls.size = nL) (hst : st0 = As.reverse ++ rest) (hW : (rest.map fun v => v.category).sum ≤ 8) (hdg : decode cc pc = .ok (.invokestatic index, 3)) (hf : cells ≤ R.cells ∧ slots ≤ R.slots) (kk : ∀ (H1 : Heap) (locs1 : List Loc), va_P D vwCl W2 H1 → va_D A0 W2 → va_S A0 s.heap H1 locs1 → Wx p l e R s m args below meth c H1 locs1 cells slots Q (F0 m (pc + 3) ls (.int v :: rest))) : Wx p l e R s m args below meth c H locs cells slots Q (F0 m pc ls st0) :=
  mw_goi (va_runSN (As := As) (rest := rest) S (hc H.size) ⟨va_cnB n S.2.2.2.2 hT hw hrm.1 hrm.2.1 hlk hini hd hrm.2.2, hstt, trivial⟩ (pre_mu hG hP hD) rfl hn hsize hst (lv_room hW) hdg hf) hD hS hA ha kk
theorem vwV {q : vw_C} {ci : Nat} {fs : List Value} {C : String} (hc : MV l D cy y wy rm W1 W2 (.ref b :: As)) (S : CallFix p m c cc nL s args Ts own) (hT : GoodIn Ts (wsV own index C y wy)) (hw : wy = Cond.code y bytes maxL ret :: ws') (hd : y.cls = C ∧ y.cls ≠ "java/lang/invoke/MethodHandle" ∧ y.cls ≠ "java/lang/invoke/VarHandle" ∧ (parseMethodDescriptor y.desc).map (fun d => d.parameters.length) = some n) (hrm : rm.cells = 0 ∧ rm.slots = 0 ∧ rm.frames + 1 ≤ R.frames ∧ 8 + (maxL + 11) + rm.locals ≤ R.locals) (hG : GK D cy s)  (hP : va_P D vwCl W1 H) (hD : va_D A0 W1) (hS : va_S A0 s.heap H locs) (hA : ∀ q, s.heap.size ≤ q → A0 q) (ha : W2.map Prod.fst = W1.map Prod.fst) (hcl : vwCl[ci]? = some q) (hq : q.1 = C) (he : (b, .inr (ci, fs)) ∈ W1) (hn : As.length = n) (hsize : ls.size = nL) (hst : st0 = As.reverse ++ .ref b :: rest) (hW : (rest.map fun v => v.category).sum ≤ 8) (hdg : decode cc pc = .ok (.invokevirtual index, 3)) (hf : cells ≤ R.cells ∧ slots ≤ R.slots) (kk : ∀ (H1 : Heap) (locs1 : List Loc), va_P D vwCl W2 H1 → va_D A0 W2 → va_S A0 s.heap H1 locs1 → Wx p l e R s m args below meth c H1 locs1 cells slots Q (F0 m (pc + 3) ls (rest))) : Wx p l e R s m args below meth c H locs cells slots Q (F0 m pc ls st0) :=
  mw_gov (va_runV (As := As) (rest := rest) S (hc H.size) (cwV n S.2.2.2.2 hT hw hrm.1 hrm.2.1 hd hrm.2.2) (pre_vm hG hP hcl hq he (pre_mu hG hP hD)) rfl hn hsize hst (lv_room hW) hdg hf) hD hS hA ha kk
theorem vwVN {q : vw_C} {ci : Nat} {fs : List Value} {C host : String} (hc : MV l D cy y wy rm W1 W2 (.ref b :: As)) (S : CallFix p m c cc nL s args Ts own) (hT : GoodIn Ts wy) (hlk : va_Nw (.methodLinkNest own index y host) s) (hini : (Cond.initialized y.cls).before args s = true) (him : (Cond.instanceMethod y).before args s = true) (hse : (Cond.selects C y y).before args s = true) (hw : wy = Cond.code y bytes maxL ret :: ws') (hd : y.cls = C ∧ y.cls ≠ "java/lang/invoke/MethodHandle" ∧ y.cls ≠ "java/lang/invoke/VarHandle" ∧ (parseMethodDescriptor y.desc).map (fun d => d.parameters.length) = some n) (hrm : rm.cells = 0 ∧ rm.slots = 0 ∧ rm.frames + 1 ≤ R.frames ∧ 8 + (maxL + 11) + rm.locals ≤ R.locals) (hG : GK D cy s)  (hP : va_P D vwCl W1 H) (hD : va_D A0 W1) (hS : va_S A0 s.heap H locs) (hA : ∀ q, s.heap.size ≤ q → A0 q) (ha : W2.map Prod.fst = W1.map Prod.fst) (hcl : vwCl[ci]? = some q) (hq : q.1 = C) (he : (b, .inr (ci, fs)) ∈ W1) (hn : As.length = n) (hsize : ls.size = nL) (hst : st0 = As.reverse ++ .ref b :: rest) (hW : (rest.map fun v => v.category).sum ≤ 8) (hdg : decode cc pc = .ok (.invokevirtual index, 3)) (hf : cells ≤ R.cells ∧ slots ≤ R.slots) (kk : ∀ (H1 : Heap) (locs1 : List Loc), va_P D vwCl W2 H1 → va_D A0 W2 → va_S A0 s.heap H1 locs1 → Wx p l e R s m args below meth c H1 locs1 cells slots Q (F0 m (pc + 3) ls (rest))) : Wx p l e R s m args below meth c H locs cells slots Q (F0 m pc ls st0) :=
  mw_gov (va_runVN (As := As) (rest := rest) S (hc H.size) ⟨va_cnB n S.2.2.2.2 hT hw hrm.1 hrm.2.1 hlk hini hd.2 hrm.2.2, him, hse⟩ (pre_vm hG hP hcl hq he (pre_mu hG hP hD)) rfl hn hsize hst (lv_room hW) hdg hf) hD hS hA ha kk
theorem vwSN {host : String} (hc : MV l D cy y wy rm W1 W2 As) (S : CallFix p m c cc nL s args Ts own) (hT : GoodIn Ts wy) (hlk : va_Nw (.methodLinkNest own index y host) s) (hini : (Cond.initialized y.cls).before args s = true) (hstt : (Cond.static y).before args s = true) (hw : wy = Cond.code y bytes maxL ret :: ws') (hd : y.cls ≠ "java/lang/invoke/MethodHandle" ∧ y.cls ≠ "java/lang/invoke/VarHandle" ∧ (parseMethodDescriptor y.desc).map (fun d => d.parameters.length) = some n) (hrm : rm.cells = 0 ∧ rm.slots = 0 ∧ rm.frames + 1 ≤ R.frames ∧ 8 + (maxL + 11) + rm.locals ≤ R.locals) (hG : GK D cy s)  (hP : va_P D vwCl W1 H) (hD : va_D A0 W1) (hS : va_S A0 s.heap H locs) (hA : ∀ q, s.heap.size ≤ q → A0 q) (ha : W2.map Prod.fst = W1.map Prod.fst) (hn : As.length = n) (hsize : ls.size = nL) (hst : st0 = As.reverse ++ rest) (hW : (rest.map fun v => v.category).sum ≤ 8) (hdg : decode cc pc = .ok (.invokestatic index, 3)) (hf : cells ≤ R.cells ∧ slots ≤ R.slots) (kk : ∀ (H1 : Heap) (locs1 : List Loc), va_P D vwCl W2 H1 → va_D A0 W2 → va_S A0 s.heap H1 locs1 → Wx p l e R s m args below meth c H1 locs1 cells slots Q (F0 m (pc + 3) ls (rest))) : Wx p l e R s m args below meth c H locs cells slots Q (F0 m pc ls st0) :=
  mw_gov (va_runSN (As := As) (rest := rest) S (hc H.size) ⟨va_cnB n S.2.2.2.2 hT hw hrm.1 hrm.2.1 hlk hini hd hrm.2.2, hstt, trivial⟩ (pre_mu hG hP hD) rfl hn hsize hst (lv_room hW) hdg hf) hD hS hA ha kk
theorem fwV {q : vw_C} {ci : Nat} {fs : List Value} {C : String} (hc : MUf l D cy t y wy rm W1 W2 (.ref b :: As) v) (S : CallFix p m c cc nL s args Ts own) (hT : GoodIn Ts (wsV own index C y wy)) (hw : wy = Cond.code y bytes maxL ret :: ws') (hd : y.cls = C ∧ y.cls ≠ "java/lang/invoke/MethodHandle" ∧ y.cls ≠ "java/lang/invoke/VarHandle" ∧ (parseMethodDescriptor y.desc).map (fun d => d.parameters.length) = some n) (hrm : rm.cells = 0 ∧ rm.slots = 0 ∧ rm.frames + 1 ≤ R.frames ∧ 8 + (maxL + 11) + rm.locals ≤ R.locals) (hG : GK D cy s) (hF : FX t A0 s s.heap) (hP : va_P D vwCl W1 H) (hD : va_D A0 W1) (hS : va_S A0 s.heap H locs) (hA : ∀ q, s.heap.size ≤ q → A0 q) (ha : W2.map Prod.fst = W1.map Prod.fst) (hcl : vwCl[ci]? = some q) (hq : q.1 = C) (he : (b, .inr (ci, fs)) ∈ W1) (hn : As.length = n) (hsize : ls.size = nL) (hst : st0 = As.reverse ++ .ref b :: rest) (hW : (rest.map fun v => v.category).sum ≤ 8) (hdg : decode cc pc = .ok (.invokevirtual index, 3)) (hf : cells ≤ R.cells ∧ slots ≤ R.slots) (kk : ∀ (H1 : Heap) (locs1 : List Loc), va_P D vwCl W2 H1 → va_D A0 W2 → va_S A0 s.heap H1 locs1 → Wx p l e R s m args below meth c H1 locs1 cells slots Q (F0 m (pc + 3) ls (.int v :: rest))) : Wx p l e R s m args below meth c H locs cells slots Q (F0 m pc ls st0) :=
  mw_goi (va_runV (As := As) (rest := rest) S (hc H.size) (cwV n S.2.2.2.2 hT hw hrm.1 hrm.2.1 hd hrm.2.2) (pre_vm hG hP hcl hq he (pre_muf hG hF hS hP hD (w_free hD hS hA))) rfl hn hsize hst (lv_room hW) hdg hf) hD hS hA ha kk
theorem fwVN {q : vw_C} {ci : Nat} {fs : List Value} {C host : String} (hc : MUf l D cy t y wy rm W1 W2 (.ref b :: As) v) (S : CallFix p m c cc nL s args Ts own) (hT : GoodIn Ts wy) (hlk : va_Nw (.methodLinkNest own index y host) s) (hini : (Cond.initialized y.cls).before args s = true) (him : (Cond.instanceMethod y).before args s = true) (hse : (Cond.selects C y y).before args s = true) (hw : wy = Cond.code y bytes maxL ret :: ws') (hd : y.cls = C ∧ y.cls ≠ "java/lang/invoke/MethodHandle" ∧ y.cls ≠ "java/lang/invoke/VarHandle" ∧ (parseMethodDescriptor y.desc).map (fun d => d.parameters.length) = some n) (hrm : rm.cells = 0 ∧ rm.slots = 0 ∧ rm.frames + 1 ≤ R.frames ∧ 8 + (maxL + 11) + rm.locals ≤ R.locals) (hG : GK D cy s) (hF : FX t A0 s s.heap) (hP : va_P D vwCl W1 H) (hD : va_D A0 W1) (hS : va_S A0 s.heap H locs) (hA : ∀ q, s.heap.size ≤ q → A0 q) (ha : W2.map Prod.fst = W1.map Prod.fst) (hcl : vwCl[ci]? = some q) (hq : q.1 = C) (he : (b, .inr (ci, fs)) ∈ W1) (hn : As.length = n) (hsize : ls.size = nL) (hst : st0 = As.reverse ++ .ref b :: rest) (hW : (rest.map fun v => v.category).sum ≤ 8) (hdg : decode cc pc = .ok (.invokevirtual index, 3)) (hf : cells ≤ R.cells ∧ slots ≤ R.slots) (kk : ∀ (H1 : Heap) (locs1 : List Loc), va_P D vwCl W2 H1 → va_D A0 W2 → va_S A0 s.heap H1 locs1 → Wx p l e R s m args below meth c H1 locs1 cells slots Q (F0 m (pc + 3) ls (.int v :: rest))) : Wx p l e R s m args below meth c H locs cells slots Q (F0 m pc ls st0) :=
  mw_goi (va_runVN (As := As) (rest := rest) S (hc H.size) ⟨va_cnB n S.2.2.2.2 hT hw hrm.1 hrm.2.1 hlk hini hd.2 hrm.2.2, him, hse⟩ (pre_vm hG hP hcl hq he (pre_muf hG hF hS hP hD (w_free hD hS hA))) rfl hn hsize hst (lv_room hW) hdg hf) hD hS hA ha kk
theorem gwV {q : vw_C} {ci : Nat} {fs : List Value} {C : String} (hc : MVf l D cy t y wy rm W1 W2 (.ref b :: As)) (S : CallFix p m c cc nL s args Ts own) (hT : GoodIn Ts (wsV own index C y wy)) (hw : wy = Cond.code y bytes maxL ret :: ws') (hd : y.cls = C ∧ y.cls ≠ "java/lang/invoke/MethodHandle" ∧ y.cls ≠ "java/lang/invoke/VarHandle" ∧ (parseMethodDescriptor y.desc).map (fun d => d.parameters.length) = some n) (hrm : rm.cells = 0 ∧ rm.slots = 0 ∧ rm.frames + 1 ≤ R.frames ∧ 8 + (maxL + 11) + rm.locals ≤ R.locals) (hG : GK D cy s) (hF : FX t A0 s s.heap) (hP : va_P D vwCl W1 H) (hD : va_D A0 W1) (hS : va_S A0 s.heap H locs) (hA : ∀ q, s.heap.size ≤ q → A0 q) (ha : W2.map Prod.fst = W1.map Prod.fst) (hcl : vwCl[ci]? = some q) (hq : q.1 = C) (he : (b, .inr (ci, fs)) ∈ W1) (hn : As.length = n) (hsize : ls.size = nL) (hst : st0 = As.reverse ++ .ref b :: rest) (hW : (rest.map fun v => v.category).sum ≤ 8) (hdg : decode cc pc = .ok (.invokevirtual index, 3)) (hf : cells ≤ R.cells ∧ slots ≤ R.slots) (kk : ∀ (H1 : Heap) (locs1 : List Loc), va_P D vwCl W2 H1 → va_D A0 W2 → va_S A0 s.heap H1 locs1 → Wx p l e R s m args below meth c H1 locs1 cells slots Q (F0 m (pc + 3) ls (rest))) : Wx p l e R s m args below meth c H locs cells slots Q (F0 m pc ls st0) :=
  mw_gov (va_runV (As := As) (rest := rest) S (hc H.size) (cwV n S.2.2.2.2 hT hw hrm.1 hrm.2.1 hd hrm.2.2) (pre_vm hG hP hcl hq he (pre_muf hG hF hS hP hD (w_free hD hS hA))) rfl hn hsize hst (lv_room hW) hdg hf) hD hS hA ha kk
theorem gwVN {q : vw_C} {ci : Nat} {fs : List Value} {C host : String} (hc : MVf l D cy t y wy rm W1 W2 (.ref b :: As)) (S : CallFix p m c cc nL s args Ts own) (hT : GoodIn Ts wy) (hlk : va_Nw (.methodLinkNest own index y host) s) (hini : (Cond.initialized y.cls).before args s = true) (him : (Cond.instanceMethod y).before args s = true) (hse : (Cond.selects C y y).before args s = true) (hw : wy = Cond.code y bytes maxL ret :: ws') (hd : y.cls = C ∧ y.cls ≠ "java/lang/invoke/MethodHandle" ∧ y.cls ≠ "java/lang/invoke/VarHandle" ∧ (parseMethodDescriptor y.desc).map (fun d => d.parameters.length) = some n) (hrm : rm.cells = 0 ∧ rm.slots = 0 ∧ rm.frames + 1 ≤ R.frames ∧ 8 + (maxL + 11) + rm.locals ≤ R.locals) (hG : GK D cy s) (hF : FX t A0 s s.heap) (hP : va_P D vwCl W1 H) (hD : va_D A0 W1) (hS : va_S A0 s.heap H locs) (hA : ∀ q, s.heap.size ≤ q → A0 q) (ha : W2.map Prod.fst = W1.map Prod.fst) (hcl : vwCl[ci]? = some q) (hq : q.1 = C) (he : (b, .inr (ci, fs)) ∈ W1) (hn : As.length = n) (hsize : ls.size = nL) (hst : st0 = As.reverse ++ .ref b :: rest) (hW : (rest.map fun v => v.category).sum ≤ 8) (hdg : decode cc pc = .ok (.invokevirtual index, 3)) (hf : cells ≤ R.cells ∧ slots ≤ R.slots) (kk : ∀ (H1 : Heap) (locs1 : List Loc), va_P D vwCl W2 H1 → va_D A0 W2 → va_S A0 s.heap H1 locs1 → Wx p l e R s m args below meth c H1 locs1 cells slots Q (F0 m (pc + 3) ls (rest))) : Wx p l e R s m args below meth c H locs cells slots Q (F0 m pc ls st0) :=
  mw_gov (va_runVN (As := As) (rest := rest) S (hc H.size) ⟨va_cnB n S.2.2.2.2 hT hw hrm.1 hrm.2.1 hlk hini hd.2 hrm.2.2, him, hse⟩ (pre_vm hG hP hcl hq he (pre_muf hG hF hS hP hD (w_free hD hS hA))) rfl hn hsize hst (lv_room hW) hdg hf) hD hS hA ha kk
theorem rwVN {q : vw_C} {ci : Nat} {fs : List Value} {C host : String} (hc : RO l D cy y wy rm W1 (.ref b :: As) v) (S : CallFix p m c cc nL s args Ts own) (hT : GoodIn Ts wy) (hlk : va_Nw (.methodLinkNest own index y host) s) (hini : (Cond.initialized y.cls).before args s = true) (him : (Cond.instanceMethod y).before args s = true) (hse : (Cond.selects C y y).before args s = true) (hw : wy = Cond.code y bytes maxL ret :: ws') (hd : y.cls = C ∧ y.cls ≠ "java/lang/invoke/MethodHandle" ∧ y.cls ≠ "java/lang/invoke/VarHandle" ∧ (parseMethodDescriptor y.desc).map (fun d => d.parameters.length) = some n) (hrm : rm.cells = 0 ∧ rm.slots = 0 ∧ rm.frames + 1 ≤ R.frames ∧ 8 + (maxL + 11) + rm.locals ≤ R.locals) (hG : GK D cy s) (hP : va_P D vwCl W1 H) (hcl : vwCl[ci]? = some q) (hq : q.1 = C) (he : (b, .inr (ci, fs)) ∈ W1) (hn : As.length = n) (hsize : ls.size = nL) (hst : st0 = As.reverse ++ .ref b :: rest) (hW : (rest.map fun v => v.category).sum ≤ 8) (hdg : decode cc pc = .ok (.invokevirtual index, 3)) (hf : cells ≤ R.cells ∧ slots ≤ R.slots) (kk : Wx p l e R s m args below meth c H locs cells slots Q (F0 m (pc + 3) ls (.int v :: rest))) : Wx p l e R s m args below meth c H locs cells slots Q (F0 m pc ls st0) :=
  ro_go (va_runVN (As := As) (rest := rest) S hc ⟨va_cnB n S.2.2.2.2 hT hw hrm.1 hrm.2.1 hlk hini hd.2 hrm.2.2, him, hse⟩ (pre_vm hG hP hcl hq he (pre_ro hG hP)) rfl hn hsize hst (lv_room hW) hdg hf) kk
theorem ex_go {mc ms code : Nat} {a : Array Value} (hr : vx_Run p l e R s m args below meth c H locs cells slots mc ms (F0 m pc ls st0) rest (va_Qi (fun r (_ : Unit) => code = 0 ∧ r = v) (fun _ u => va_P D vwCl W2 u.heap) (va_A W1 H.size) a) (vx_X (fun (_ : Unit) => True) (fun E _ u => 0 < code ∧ E = exN code ∧ va_P D vwCl W2 u.heap) (va_A W1 H.size)) (va_A W1 H.size))
    (hD : va_D A0 W1) (hS : va_S A0 s.heap H locs) (hA : ∀ q, s.heap.size ≤ q → A0 q) (ha : W2.map Prod.fst = W1.map Prod.fst)
    (kx : 0 < code → ∀ (ce : Cell) (q9 : Addr) (H1 : Heap) (locs1 : List Loc), va_P D vwCl W2 H1 → va_D A0 W2 → va_S A0 s.heap H1 locs1 → H1[q9]? = some ce → ce.vm = .none → s.vm.findClass (exN code) = some ce.cls → vx_W p l e R s m args below meth c H1 locs1 (cells + mc) (slots + ms) Q (F0 m pc ls rest) q9)
    (kk : code = 0 → ∀ (H1 : Heap) (locs1 : List Loc), va_P D vwCl W2 H1 → va_D A0 W2 → va_S A0 s.heap H1 locs1 → Wx p l e R s m args below meth c H1 locs1 (cells + mc) (slots + ms) Q (F0 m (pc + 3) ls (.int v :: rest))) : Wx p l e R s m args below meth c H locs cells slots Q (F0 m pc ls st0) := by
  have hF := w_free hD hS hA
  refine vx_calli hr hS (fun q _ h => hF q h) hF (fun q _ h => hF q h) (fun E ce q9 u t H1 locs1 ht hvm _ hB hz hk hS1 h1 h2 h3 => ?_) (fun r u t H1 locs1 ht hvm hw hB hz hk hS1 => ?_)
  · obtain ⟨hc0, rfl, hB⟩ := hB
    rw [ht] at hB
    exact kx hc0 ce q9 H1 locs1 hB (w_adr ha hD) hS1 h1 h2 h3
  · obtain ⟨hc0, rfl⟩ := hw
    have hB : va_P D vwCl W2 t.heap := hB
    rw [ht] at hB
    exact kk hc0 H1 locs1 hB (w_adr ha hD) hS1
theorem exV {q : vw_C} {ci : Nat} {fs : List Value} {C : String} {mc ms code : Nat} (hc : EX l D cy t y wy rm W1 W2 (.ref b :: As) mc ms code v) (S : CallFix p m c cc nL s args Ts own) (hT : GoodIn Ts (wsV own index C y wy)) (hw : wy = Cond.code y bytes maxL ret :: ws') (hd : y.cls = C ∧ y.cls ≠ "java/lang/invoke/MethodHandle" ∧ y.cls ≠ "java/lang/invoke/VarHandle" ∧ (parseMethodDescriptor y.desc).map (fun d => d.parameters.length) = some n) (hrm : rm.cells = mc ∧ rm.slots = ms ∧ rm.frames + 1 ≤ R.frames ∧ 8 + (maxL + 11) + rm.locals ≤ R.locals) (hG : GK D cy s) (hF : FX t A0 s s.heap) (hP : va_P D vwCl W1 H) (hD : va_D A0 W1) (hS : va_S A0 s.heap H locs) (hA : ∀ q, s.heap.size ≤ q → A0 q) (ha : W2.map Prod.fst = W1.map Prod.fst) (hcl : vwCl[ci]? = some q) (hq : q.1 = C) (he : (b, .inr (ci, fs)) ∈ W1) (hn : As.length = n) (hsize : ls.size = nL) (hst : st0 = As.reverse ++ .ref b :: rest) (hW : (rest.map fun v => v.category).sum ≤ 8) (hdg : decode cc pc = .ok (.invokevirtual index, 3)) (hf : cells + mc ≤ R.cells ∧ slots + ms ≤ R.slots) 
    (kx : 0 < code → ∀ (ce : Cell) (q9 : Addr) (H1 : Heap) (locs1 : List Loc), va_P D vwCl W2 H1 → va_D A0 W2 → va_S A0 s.heap H1 locs1 → H1[q9]? = some ce → ce.vm = .none → s.vm.findClass (exN code) = some ce.cls → vx_W p l e R s m args below meth c H1 locs1 (cells + mc) (slots + ms) Q (F0 m pc ls rest) q9)
    (kk : code = 0 → ∀ (H1 : Heap) (locs1 : List Loc), va_P D vwCl W2 H1 → va_D A0 W2 → va_S A0 s.heap H1 locs1 → Wx p l e R s m args below meth c H1 locs1 (cells + mc) (slots + ms) Q (F0 m (pc + 3) ls (.int v :: rest))) : Wx p l e R s m args below meth c H locs cells slots Q (F0 m pc ls st0) :=
  ex_go (vx_runV (As := As) (rest := rest) S (hc H.size) (cwV n S.2.2.2.2 hT hw hrm.1 hrm.2.1 hd hrm.2.2) (pre_vm hG hP hcl hq he (pre_muf hG hF hS hP hD (w_free hD hS hA))) rfl hn hsize hst (lv_room hW) hdg hf) hD hS hA ha kx kk
end WROWS
theorem g_Hi_0 {cy : Nat → ClassId} {h0 h1 : Nat} {ka : Nat → Nat → Nat} {z : HiT} {r : va_W} : (wHi cy h0 h1 ka z ++ r)[0]? = some (h0, .inr (2, [.ref h1, .int (hO z), .int (hC z)])) := rfl
theorem g_Hi_1 {cy : Nat → ClassId} {h0 h1 : Nat} {ka : Nat → Nat → Nat} {z : HiT} {r : va_W} : (wHi cy h0 h1 ka z ++ r)[1]? = some (h1, .inl (cy 2, 15, .inr (.inr (.inr (.inr (fun i => some (ka i 0))))))) := rfl
theorem s_Hi_2 {cy : Nat → ClassId} {h0 h1 : Nat} {ka : Nat → Nat → Nat} {z : HiT} {r : va_W} {v : Int32} : (wHi cy h0 h1 ka z ++ r).set 0 (h0, .inr (2, List.set [.ref h1, .int (hO z), .int (hC z)] 2 (.int v))) = wHi cy h0 h1 ka (hK z, hO z, v) ++ r := by
  unfold wHi wHd
  rw [List.append_assoc, List.append_assoc]
  rfl
theorem s_Hi_1 {cy : Nat → ClassId} {h0 h1 : Nat} {ka : Nat → Nat → Nat} {z : HiT} {r : va_W} {v : Int32} : (wHi cy h0 h1 ka z ++ r).set 0 (h0, .inr (2, List.set [.ref h1, .int (hO z), .int (hC z)] 1 (.int v))) = wHi cy h0 h1 ka (hK z, v, hC z) ++ r := by
  unfold wHi wHd
  rw [List.append_assoc, List.append_assoc]
  rfl
theorem h_Hi {cy : Nat → ClassId} {h0 h1 : Nat} {ka : Nat → Nat → Nat} {z : HiT} {r : va_W} {z2 : HiT} : (wHi cy h0 h1 ka z2 ++ r).map Prod.fst = (wHi cy h0 h1 ka z ++ r).map Prod.fst := by
  unfold wHi
  rw [List.map_append, List.map_append, List.map_append, List.map_append, bk_adr (g := hK z)]
  rfl
theorem h_Hi0 {cy : Nat → ClassId} {h0 h1 : Nat} {ka : Nat → Nat → Nat} {z z2 : HiT} : (wHi cy h0 h1 ka z2).map Prod.fst = (wHi cy h0 h1 ka z).map Prod.fst := by
  unfold wHi
  rw [List.map_append, List.map_append, bk_adr (g := hK z)]
  rfl
theorem m_bk {cy : Nat → ClassId} {ka : Nat → Nat → Nat} {f : Nat → StT} {i n : Nat} {q : Nat × va_E} (hi : i < n) (h : q ∈ wSt cy (ka i) (f i)) : q ∈ wBk cy ka f n := (bk_out n hi).mem_iff.mpr (List.mem_append_left _ h)
theorem hd_X2_prepare : yX2_prepare.cls = RX2 ∧ yX2_prepare.cls ≠ "java/lang/invoke/MethodHandle" ∧ yX2_prepare.cls ≠ "java/lang/invoke/VarHandle" ∧ (parseMethodDescriptor yX2_prepare.desc).map (fun d => d.parameters.length) = some 1 := by decide +kernel
set_option maxRecDepth 20000 in
theorem c_X2_prepare (l : Launch) (D : va_G) (cy : Nat → ClassId) (h0 h1 : Nat) (ka : Nat → Nat → Nat) (na : Nat → Nat) (z : HiT) (st : StT) (hH : hiOK z) : MV l D cy yX2_prepare wsX2_prepare ({ frames := 3, cells := 0, slots := 0, locals := 82 } : Room) (wHi cy h0 h1 ka z ++ wSt cy na st) (wHi cy h0 h1 ka (hiPrep z st) ++ wSt cy na st) [.ref h0, .ref (na 0)] := by
  refine MV.body (by decide) rfl (Nat.le_of_ble_eq_true rfl) ?_
  intro p e s m below meth c hx hb hml hr hts hown hlocks hP hG ls hl A hD hA hS
  have hl : lv_has ls 2 [(0, .ref h0), (1, .ref (na 0))] := hl
  have hCF : CallFix p m c cX2_prepare 2 s ([.ref h0, .ref (na 0)] : List Value).toArray wsX2_prepare RX2 := ⟨hx, hb, hml, hown, hts⟩
  have in_X2 : ∀ w ∈ u_ws RX2 TX2 3, w ∈ wsX2_prepare := fun _ h => List.mem_cons_of_mem _ (List.mem_append_left _ (List.mem_append_left _ (List.mem_append_left _ (List.mem_append_left _ (List.mem_append_right _ h)))))
  have k_0 := hts (Cond.fieldLink RX2 13 "SparePool$History" "kept" "[LSparePool$State;") (List.mem_of_getElem? (i := 1) rfl)
  have k_1 := hts (Cond.fieldLink RX2 22 "SparePool$History" "oldest" "I") (List.mem_of_getElem? (i := 2) rfl)
  have k_2 := hts (Cond.fieldLink RX2 18 "SparePool$History" "count" "I") (List.mem_of_getElem? (i := 3) rfl)
  have k_3 := hts (Cond.initialized RX5) (List.mem_of_getElem? (i := 5) rfl)
  have k_4 := hts (Cond.instanceMethod yX5_copyFrom) (List.mem_of_getElem? (i := 4) rfl)
  have k_5 := hts (Cond.selects RX5 yX5_copyFrom yX5_copyFrom) (List.mem_of_getElem? (i := 6) rfl)
  refine lv_aload_n hx hb dX2_prepare_0 rfl (lv_at hl 0 rfl) ?_
  refine va_get (D := D) (ci := 2) (v := .ref h1) (C := RX2) (T := TX2) (N := 3) hx hb hts in_X2 hown hG.1 hP 0 g_Hi_0 rfl 0 (by decide) k_0 (fun _ h9 => h9) rfl dX2_prepare_1 ?_
  refine lv_aload_n hx hb dX2_prepare_4 rfl (lv_at hl 0 rfl) ?_
  refine va_get (D := D) (ci := 2) (v := .int (hO z)) (C := RX2) (T := TX2) (N := 3) hx hb hts in_X2 hown hG.1 hP 0 g_Hi_0 rfl 1 (by decide) k_1 (fun _ h9 => h9) rfl dX2_prepare_5 ?_
  refine lv_aload_n hx hb dX2_prepare_8 rfl (lv_at hl 0 rfl) ?_
  refine va_get (D := D) (ci := 2) (v := .int (hC z)) (C := RX2) (T := TX2) (N := 3) hx hb hts in_X2 hown hG.1 hP 0 g_Hi_0 rfl 2 (by decide) k_2 (fun _ h9 => h9) rfl dX2_prepare_9 ?_
  refine lv_iadd hx hb dX2_prepare_12 ?_
  refine lv_bipush (v := (15 : Int32)) hx hb dX2_prepare_13 (by decide) ?_
  refine lv_irem hx hb dX2_prepare_15 (by decide) ?_
  refine va_aldq (i := hiN z) hx hb hG.1 hP 1 2 g_Hi_1 rfl (iv_in (hiN_iv hH) (by decide) (by decide)) dX2_prepare_16 ?_
  refine lv_aload_n hx hb dX2_prepare_17 rfl (lv_at hl 1 rfl) ?_
  refine vwVN (ci := 3) (A0 := A) (As := [.ref (na 0)]) (rest := []) ((c_X5_copyTo l D cy (ka (hiN z).toNatClampNeg) na (hK z (hiN z).toNatClampNeg) st).ctx (hp_out (hiN_lt hH)) (hp_prep hH)) hCF gX2_prepare_X5_copyFrom_n25 (nw_X2_25 hG.2) k_3 k_4 k_5 rfl hd_X5_copyFrom ⟨rfl, rfl, Nat.le_of_ble_eq_true rfl, Nat.le_of_ble_eq_true rfl⟩ hG hP hD hS hA (by rw [List.map_append, List.map_append]; exact congrArg (· ++ _) h_Hi0) rfl rfl (List.mem_append_left _ (List.mem_append_right _ (m_bk (hiN_lt hH) (List.mem_of_getElem? g_St_0)))) rfl hl.1 rfl (Nat.le_of_ble_eq_true rfl) dX2_prepare_18 ⟨Nat.le_refl _, Nat.le_refl _⟩ (fun H locs hP hD hS => ?_)
  exact mu_vret hx hb hr hlocks hP hS dX2_prepare_21 rfl
theorem hd_X2_takeBack : yX2_takeBack.cls = RX2 ∧ yX2_takeBack.cls ≠ "java/lang/invoke/MethodHandle" ∧ yX2_takeBack.cls ≠ "java/lang/invoke/VarHandle" ∧ (parseMethodDescriptor yX2_takeBack.desc).map (fun d => d.parameters.length) = some 1 := by decide +kernel
set_option maxRecDepth 20000 in
theorem c_X2_takeBack (l : Launch) (D : va_G) (cy : Nat → ClassId) (h0 h1 : Nat) (ka : Nat → Nat → Nat) (na : Nat → Nat) (z : HiT) (st : StT) (hH : hiOK z) : MV l D cy yX2_takeBack wsX2_takeBack ({ frames := 3, cells := 0, slots := 0, locals := 82 } : Room) (wHi cy h0 h1 ka z ++ wSt cy na st) (wHi cy h0 h1 ka (hiBack z st).2 ++ wSt cy na (hiBack z st).1) [.ref h0, .ref (na 0)] := by
  refine MV.body (by decide) rfl (Nat.le_of_ble_eq_true rfl) ?_
  intro p e s m below meth c hx hb hml hr hts hown hlocks hP hG ls hl A hD hA hS
  have hl : lv_has ls 2 [(0, .ref h0), (1, .ref (na 0))] := hl
  have hCF : CallFix p m c cX2_takeBack 2 s ([.ref h0, .ref (na 0)] : List Value).toArray wsX2_takeBack RX2 := ⟨hx, hb, hml, hown, hts⟩
  have in_X2 : ∀ w ∈ u_ws RX2 TX2 3, w ∈ wsX2_takeBack := fun _ h => List.mem_cons_of_mem _ (List.mem_append_left _ (List.mem_append_left _ (List.mem_append_left _ (List.mem_append_left _ (List.mem_append_right _ h)))))
  have k_0 := hts (Cond.fieldLink RX2 13 "SparePool$History" "kept" "[LSparePool$State;") (List.mem_of_getElem? (i := 2) rfl)
  have k_1 := hts (Cond.fieldLink RX2 22 "SparePool$History" "oldest" "I") (List.mem_of_getElem? (i := 3) rfl)
  have k_2 := hts (Cond.fieldLink RX2 18 "SparePool$History" "count" "I") (List.mem_of_getElem? (i := 1) rfl)
  have k_3 := hts (Cond.initialized RX5) (List.mem_of_getElem? (i := 5) rfl)
  have k_4 := hts (Cond.instanceMethod yX5_copyFrom) (List.mem_of_getElem? (i := 4) rfl)
  have k_5 := hts (Cond.selects RX5 yX5_copyFrom yX5_copyFrom) (List.mem_of_getElem? (i := 6) rfl)
  refine lv_aload_n hx hb dX2_takeBack_0 rfl (lv_at hl 0 rfl) ?_
  refine va_get (D := D) (ci := 2) (v := .int (hC z)) (C := RX2) (T := TX2) (N := 3) hx hb hts in_X2 hown hG.1 hP 0 g_Hi_0 rfl 2 (by decide) k_2 (fun _ h9 => h9) rfl dX2_takeBack_1 ?_
  refine lv_if_le (tgt := 38) hx hb dX2_takeBack_4 (by decide) (fun c_1 => ?_) (fun c_1 => ?_)
  · exact mu_vret hx hb hr hlocks hP hS dX2_takeBack_38 (by rw [hiBack, if_pos c_1])
  have eB : hiBack z st = (hK z (hiN (hiDown z)).toNatClampNeg, hiDown z) := by rw [hiBack, if_neg c_1]
  rw [eB]
  have hH2 := ok_down hH c_1
  refine lv_aload_n hx hb dX2_takeBack_7 rfl (lv_at hl 0 rfl) ?_
  refine lv_dup hx hb dX2_takeBack_8 rfl ?_
  refine va_get (D := D) (ci := 2) (v := .int (hC z)) (C := RX2) (T := TX2) (N := 3) hx hb hts in_X2 hown hG.1 hP 0 g_Hi_0 rfl 2 (by decide) k_2 (fun _ h9 => h9) rfl dX2_takeBack_9 ?_
  refine lv_iconst (v := (1 : Int32)) hx hb dX2_takeBack_12 (by decide) ?_
  refine lv_isub hx hb dX2_takeBack_13 ?_
  refine va_put (D := D) (ci := 2) (v := .int (hC z - 1)) (ty := .int) (C := RX2) (T := TX2) (N := 3) hx hb hts in_X2 tyX2 tyX2_ok nmX2 hown hG.1 hP hD hS 0 g_Hi_0 rfl 2 (by decide) k_2 (fun _ h9 => h9) rfl (by decide +kernel) rfl rfl (Nat.le_of_ble_eq_true rfl) dX2_takeBack_14 (fun H locs hP hD hS => ?_)
  have hP : va_P D vwCl (wHi cy h0 h1 ka (hiDown z) ++ wSt cy na st) H := va_P_eq hP s_Hi_2
  have hD : va_D A (wHi cy h0 h1 ka (hiDown z) ++ wSt cy na st) := va_D_eq hD s_Hi_2
  refine lv_aload_n hx hb dX2_takeBack_17 rfl (lv_at hl 1 rfl) ?_
  refine lv_aload_n hx hb dX2_takeBack_18 rfl (lv_at hl 0 rfl) ?_
  refine va_get (D := D) (ci := 2) (v := .ref h1) (C := RX2) (T := TX2) (N := 3) hx hb hts in_X2 hown hG.1 hP 0 g_Hi_0 rfl 0 (by decide) k_0 (fun _ h9 => h9) rfl dX2_takeBack_19 ?_
  refine lv_aload_n hx hb dX2_takeBack_22 rfl (lv_at hl 0 rfl) ?_
  refine va_get (D := D) (ci := 2) (v := .int (hO (hiDown z))) (C := RX2) (T := TX2) (N := 3) hx hb hts in_X2 hown hG.1 hP 0 g_Hi_0 rfl 1 (by decide) k_1 (fun _ h9 => h9) rfl dX2_takeBack_23 ?_
  refine lv_aload_n hx hb dX2_takeBack_26 rfl (lv_at hl 0 rfl) ?_
  refine va_get (D := D) (ci := 2) (v := .int (hC (hiDown z))) (C := RX2) (T := TX2) (N := 3) hx hb hts in_X2 hown hG.1 hP 0 g_Hi_0 rfl 2 (by decide) k_2 (fun _ h9 => h9) rfl dX2_takeBack_27 ?_
  refine lv_iadd hx hb dX2_takeBack_30 ?_
  refine lv_bipush (v := (15 : Int32)) hx hb dX2_takeBack_31 (by decide) ?_
  refine lv_irem hx hb dX2_takeBack_33 (by decide) ?_
  refine va_aldq (i := hiN (hiDown z)) hx hb hG.1 hP 1 2 g_Hi_1 rfl (iv_in (hiN_iv hH2) (by decide) (by decide)) dX2_takeBack_34 ?_
  refine vwVN (ci := 3) (A0 := A) (As := [.ref (ka (hiN (hiDown z)).toNatClampNeg 0)]) (rest := []) ((c_X5_copyTo l D cy na (ka (hiN (hiDown z)).toNatClampNeg) st (hK z (hiN (hiDown z)).toNatClampNeg)).ctx (hp_out2 (z := hiDown z) (hiN_lt hH2)) (hp_out2 (z := hiDown z) (st := hK z (hiN (hiDown z)).toNatClampNeg) (hiN_lt hH2))) hCF gX2_takeBack_X5_copyFrom_n25 (nw_X2_25 hG.2) k_3 k_4 k_5 rfl hd_X5_copyFrom ⟨rfl, rfl, Nat.le_of_ble_eq_true rfl, Nat.le_of_ble_eq_true rfl⟩ hG hP hD hS hA (by rw [List.map_append, List.map_append]; exact congrArg (_ ++ ·) h_St) rfl rfl (List.mem_append_right _ (List.mem_of_getElem? g_St_0)) rfl hl.1 rfl (Nat.le_of_ble_eq_true rfl) dX2_takeBack_35 ⟨Nat.le_refl _, Nat.le_refl _⟩ (fun H locs hP hD hS => ?_)
  exact mu_vret hx hb hr hlocks hP hS dX2_takeBack_38 rfl
theorem hd_X2_keepPrepared : yX2_keepPrepared.cls = RX2 ∧ yX2_keepPrepared.cls ≠ "java/lang/invoke/MethodHandle" ∧ yX2_keepPrepared.cls ≠ "java/lang/invoke/VarHandle" ∧ (parseMethodDescriptor yX2_keepPrepared.desc).map (fun d => d.parameters.length) = some 0 := by decide +kernel
set_option maxRecDepth 20000 in
theorem c_X2_keepPrepared (l : Launch) (D : va_G) (cy : Nat → ClassId) (h0 h1 : Nat) (ka : Nat → Nat → Nat) (z : HiT) (r : va_W) : MV l D cy yX2_keepPrepared wsX2_keepPrepared ({ frames := 0, cells := 0, slots := 0, locals := 0 } : Room) (wHi cy h0 h1 ka z ++ r) (wHi cy h0 h1 ka (hiKeep z) ++ r) [.ref h0] := by
  refine MV.body (by decide) rfl (Nat.le_of_ble_eq_true rfl) ?_
  intro p e s m below meth c hx hb hml hr hts hown hlocks hP hG ls hl A hD hA hS
  have hl : lv_has ls 1 [(0, .ref h0)] := hl
  have in_X2 : ∀ w ∈ u_ws RX2 TX2 3, w ∈ wsX2_keepPrepared := fun _ h => List.mem_cons_of_mem _ (List.mem_append_right _ h)
  have k_2 := hts (Cond.fieldLink RX2 18 "SparePool$History" "count" "I") (List.mem_of_getElem? (i := 1) rfl)
  have k_1 := hts (Cond.fieldLink RX2 22 "SparePool$History" "oldest" "I") (List.mem_of_getElem? (i := 2) rfl)
  refine lv_aload_n hx hb dX2_keepPrepared_0 rfl (lv_at hl 0 rfl) ?_
  refine va_get (D := D) (ci := 2) (v := .int (hC z)) (C := RX2) (T := TX2) (N := 3) hx hb hts in_X2 hown hG.1 hP 0 g_Hi_0 rfl 2 (by decide) k_2 (fun _ h9 => h9) rfl dX2_keepPrepared_1 ?_
  refine lv_bipush (v := (14 : Int32)) hx hb dX2_keepPrepared_4 (by decide) ?_
  refine lv_icmp_ge (tgt := 22) hx hb dX2_keepPrepared_6 (by decide) (fun c_1 => ?_) (fun c_1 => ?_)
  · refine lv_aload_n hx hb dX2_keepPrepared_22 rfl (lv_at hl 0 rfl) ?_
    refine lv_aload_n hx hb dX2_keepPrepared_23 rfl (lv_at hl 0 rfl) ?_
    refine va_get (D := D) (ci := 2) (v := .int (hO z)) (C := RX2) (T := TX2) (N := 3) hx hb hts in_X2 hown hG.1 hP 0 g_Hi_0 rfl 1 (by decide) k_1 (fun _ h9 => h9) rfl dX2_keepPrepared_24 ?_
    refine lv_iconst (v := (1 : Int32)) hx hb dX2_keepPrepared_27 (by decide) ?_
    refine lv_iadd hx hb dX2_keepPrepared_28 ?_
    refine lv_bipush (v := (15 : Int32)) hx hb dX2_keepPrepared_29 (by decide) ?_
    refine lv_irem hx hb dX2_keepPrepared_31 (by decide) ?_
    refine va_put (D := D) (ci := 2) (v := .int ((hO z + 1) - ((hO z + 1) / 15) * 15)) (ty := .int) (C := RX2) (T := TX2) (N := 3) hx hb hts in_X2 tyX2 tyX2_ok nmX2 hown hG.1 hP hD hS 0 g_Hi_0 rfl 1 (by decide) k_1 (fun _ h9 => h9) rfl (by decide +kernel) rfl rfl (Nat.le_of_ble_eq_true rfl) dX2_keepPrepared_32 (fun H locs hP hD hS => ?_)
    exact mu_vret hx hb hr hlocks hP hS dX2_keepPrepared_35 (s_Hi_1.trans (by rw [hiKeep, if_pos c_1]))
  · refine lv_aload_n hx hb dX2_keepPrepared_9 rfl (lv_at hl 0 rfl) ?_
    refine lv_dup hx hb dX2_keepPrepared_10 rfl ?_
    refine va_get (D := D) (ci := 2) (v := .int (hC z)) (C := RX2) (T := TX2) (N := 3) hx hb hts in_X2 hown hG.1 hP 0 g_Hi_0 rfl 2 (by decide) k_2 (fun _ h9 => h9) rfl dX2_keepPrepared_11 ?_
    refine lv_iconst (v := (1 : Int32)) hx hb dX2_keepPrepared_14 (by decide) ?_
    refine lv_iadd hx hb dX2_keepPrepared_15 ?_
    refine va_put (D := D) (ci := 2) (v := .int (hC z + 1)) (ty := .int) (C := RX2) (T := TX2) (N := 3) hx hb hts in_X2 tyX2 tyX2_ok nmX2 hown hG.1 hP hD hS 0 g_Hi_0 rfl 2 (by decide) k_2 (fun _ h9 => h9) rfl (by decide +kernel) rfl rfl (Nat.le_of_ble_eq_true rfl) dX2_keepPrepared_16 (fun H locs hP hD hS => ?_)
    refine lv_goto (tgt := 35) hx hb dX2_keepPrepared_19 (by decide) ?_
    exact mu_vret hx hb hr hlocks hP hS dX2_keepPrepared_35 (s_Hi_2.trans (by rw [hiKeep, if_neg c_1]))
theorem hd_X2_forgetAll : yX2_forgetAll.cls = RX2 ∧ yX2_forgetAll.cls ≠ "java/lang/invoke/MethodHandle" ∧ yX2_forgetAll.cls ≠ "java/lang/invoke/VarHandle" ∧ (parseMethodDescriptor yX2_forgetAll.desc).map (fun d => d.parameters.length) = some 0 := by decide +kernel
set_option maxRecDepth 20000 in
theorem c_X2_forgetAll (l : Launch) (D : va_G) (cy : Nat → ClassId) (h0 h1 : Nat) (ka : Nat → Nat → Nat) (z : HiT) (r : va_W) : MV l D cy yX2_forgetAll wsX2_forgetAll ({ frames := 0, cells := 0, slots := 0, locals := 0 } : Room) (wHi cy h0 h1 ka z ++ r) (wHi cy h0 h1 ka (hiForget z) ++ r) [.ref h0] := by
  refine MV.body (by decide) rfl (Nat.le_of_ble_eq_true rfl) ?_
  intro p e s m below meth c hx hb hml hr hts hown hlocks hP hG ls hl A hD hA hS
  have hl : lv_has ls 1 [(0, .ref h0)] := hl
  have in_X2 : ∀ w ∈ u_ws RX2 TX2 3, w ∈ wsX2_forgetAll := fun _ h => List.mem_cons_of_mem _ (List.mem_append_right _ h)
  have k_2 := hts (Cond.fieldLink RX2 18 "SparePool$History" "count" "I") (List.mem_of_getElem? (i := 1) rfl)
  refine lv_aload_n hx hb dX2_forgetAll_0 rfl (lv_at hl 0 rfl) ?_
  refine lv_iconst (v := (0 : Int32)) hx hb dX2_forgetAll_1 (by decide) ?_
  refine va_put (D := D) (ci := 2) (v := .int (0 : Int32)) (ty := .int) (C := RX2) (T := TX2) (N := 3) hx hb hts in_X2 tyX2 tyX2_ok nmX2 hown hG.1 hP hD hS 0 g_Hi_0 rfl 2 (by decide) k_2 (fun _ h9 => h9) rfl (by decide +kernel) rfl rfl (Nat.le_of_ble_eq_true rfl) dX2_forgetAll_2 (fun H locs hP hD hS => ?_)
  exact mu_vret hx hb hr hlocks hP hS dX2_forgetAll_5 s_Hi_2
