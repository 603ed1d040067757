/-! the law's helpers: a call that is caught answers its number -/
def wO (cy : Nat → ClassId) (oa : Nat) (f : Nat → Int64) (W : va_W) : va_W := (oa, .inl (cy 3, 1, .inr (.inl f))) :: W
/-- what stands in the row of one long after the call -/
def oV (f : Nat → Int64) (code : Nat) (v : Int32) : Nat → Int64 := if code = 0 then vp_updL f (0 : Int32).toNatClampNeg v.toInt64 else f
theorem wO_perm {cy : Nat → ClassId} {oa : Nat} {f : Nat → Int64} {W : va_W} : (wO cy oa f W).Perm (W ++ [(oa, .inl (cy 3, 1, .inr (.inl f)))]) := (List.perm_append_singleton _ _).symm
theorem EX.out {l : Launch} {D : va_G} {cy : Nat → ClassId} {t : FxA} {y : MethodName} {ws : List Cond} {rm : Room} {w w' : va_W} {As : List Value} {mc ms code : Nat} {v : Int32} (hc : EX l D cy t y ws rm w w' As mc ms code v) (oa : Nat) (f : Nat → Int64) : EX l D cy t y ws rm (wO cy oa f w) (wO cy oa f w') As mc ms code v := hc.ctx wO_perm wO_perm
def HX (l : Launch) (D : va_G) (cy : Nat → ClassId) (t : FxA) (y : MethodName) (ws : List Cond) (w w' : va_W) (As : List Value) (v : Int32) : Prop := ∀ sz : Nat,
  Met l y ws ({ frames := 8, cells := 1, slots := 6, locals := 200 } : Room) (va_Pc As (fun U => U.heap.size = sz ∧ va_P D vwCl w U.heap ∧ va_D (fun _ => True) w ∧ GK D cy U ∧ FX t (va_A w sz) U U.heap)) (va_Qi (fun r (_ : Unit) => r = v) (fun _ t => va_P D vwCl w' t.heap) (va_A w sz)) 1 6 (va_A w sz)
section HXB
variable {l : Launch} {D : va_G} {cy : Nat → ClassId} {t : FxA} {y : MethodName} {ws ws' : List Cond} {wc w' W W' r : va_W} {As : List Value} {v : Int32} {cc : ByteArray} {maxL : Nat} {ret : Option FieldType} {hh : List (Nat × Nat × Nat × Nat)}
theorem HX.ctx (hc : HX l D cy t y ws wc w' As v) (h1 : W.Perm (wc ++ r)) (h2 : W'.Perm (w' ++ r)) : HX l D cy t y ws W W' As v := by
  intro sz
  refine MetFree.mono (hc sz) (fun a s hp => ⟨hp.1, hp.2.1, ctx_P h1 hp.2.2.1, ctx_D h1 hp.2.2.2.1, hp.2.2.2.2.1, hp.2.2.2.2.2.kept (fun _ _ _ => rfl) (ctx_A h1)⟩) (fun _ _ _ _ _ h => h) (fun a s o u hp hq => ?_)
  obtain ⟨⟨⟨x, z, e1, e2, e3⟩, e4⟩, L, e5, e6⟩ := hq
  obtain ⟨k1, k2⟩ := ctx_post h1 h2 hp.2.1 hp.2.2.1 hp.2.2.2.1 e4 e3
  exact ⟨⟨⟨x, z, e1, e2, k1⟩, k2⟩, L, e5, fun q hq => ctx_A h1 _ (e6 q hq)⟩
theorem HX.body (hy : plainName y.cls = true) (hw : ws = Cond.codeWith y cc maxL ret hh :: ws') (hlen : (lg_sl As).length ≤ maxL)
    (k : ∀ p e s m below meth c, p.tables.exec = Jvm.exec → c.code = cc → c.maxLocals = maxL → c.exceptionTable.toList = tableOf hh → meth.sig.returnType = ret → (∀ z ∈ ws, z.before As.toArray s = true) → s.vm.findClass y.cls = some m.cls → meth.locks = false → va_P D vwCl W s.heap → GK D cy s → ∀ ls : Array Slot, lv_has ls maxL (lv_args 0 As) →
      ∀ A : Nat → Prop, va_D A W → (∀ q, s.heap.size ≤ q → A q) → va_S A s.heap s.heap [] → FX t A s s.heap →
      @Wx p l e ({ frames := 8, cells := 1, slots := 6, locals := 200 } : Room) s m As.toArray below meth c s.heap [] 0 0 (MQ below (va_Qi (fun r (_ : Unit) => r = v) (fun _ t => va_P D vwCl W' t.heap) A) As.toArray s 1 6 A) (F0 m 0 ls [])) : HX l D cy t y ws W W' As v := by
  intro sz
  refine va_MetW (cc := cc) (maxL := maxL) (ret := ret) (hh := hh) hy hw ?_
  intro p e s m args below meth c s₁ B hml hv
  obtain ⟨rfl, hsz, hP, hD, hG, hF⟩ := hv
  subst hsz
  have hl := lv_entry As (n := maxL) hlen
  have hts := atoms_spec (ws := ws) B.pre
  rw [lg_entry_eq]
  exact k p e s m below meth c B.exec B.bytes hml (vx_table (x := y) B (hts _ (by rw [hw]; exact List.mem_cons_self))) B.returns hts (findClass_of_methodNamed B.named) B.notSynchronized hP hG _ hl _ (hD.self (sz := s.heap.size)) (fun q h => Or.inr h) va_S.rf hF
end HXB
section HXR
variable {p : Program} {l : Launch} {e : Env} {R : Room} {s : State} {m : MethodId} {args : Array Value} {below : List Frame} {meth : Method} {c : Code} {H : Heap} {locs : List Loc} {cells slots : Nat} {Q : State → Prop}
variable {pc : Nat} {ls : Array Slot} {rest : List Value} {D : va_G} {cy : Nat → ClassId} {cc : ByteArray} {t : FxA} {W1 W2 : va_W} {v x : Int32} {A A0 : Nat → Prop} {nL : Nat}
variable {y : MethodName} {bytes : ByteArray} {maxL n index : Nat} {ret : Option FieldType} {wy ws' : List Cond} {Ts : List Cond} {own : String} {As : List Value} {st0 : List Value} {hh : List (Nat × Nat × Nat × Nat)}
theorem hx_iret (hx : p.tables.exec = Jvm.exec) (hb : c.code = cc) (hr : meth.sig.returnType = some .int) (hlocks : meth.locks = false) (hP : va_P D vwCl W1 H) (hS : va_S A s.heap H locs) (hcl : cells ≤ 1) (hsl : slots ≤ 6) (hdg : decode cc pc = .ok (.ireturn, 1)) (hv : x = v) (hw : W1 = W2) :
    Wx p l e R s m args below meth c H locs cells slots (MQ below (va_Qi (fun r (_ : Unit) => r = v) (fun _ t => va_P D vwCl W2 t.heap) A) args s 1 6 A) (F0 m pc ls [.int x]) := by
  subst hw
  refine W.widen hcl hsl ?_
  exact W.iret hx hb hr (fun u hu _ => ⟨⟨x, (), rfl, hv, by show va_P D vwCl W1 u.heap; rw [hu]; exact hP⟩, hS.F hu⟩) hS.2.2 hdg hlocks
theorem hx_catch {i : Nat} {ce : Cell} {q9 : Addr} (hown : s.vm.findClass own = some m.cls) (hF : FX t A s s.heap) (pre : List ExceptionTableEntry) (x9 : ExceptionTableEntry) (suf : List ExceptionTableEntry) (hsplit : c.exceptionTable.toList = pre ++ x9 :: suf)
    (hpass : ∀ z ∈ pre, z.catchType ≠ 0 ∧ ∃ j : Nat, (Cond.classLink own z.catchType (exN j)).before args s = true ∧ exN i ≠ exN j) (hx9 : covers x9 pc = true) (h0 : x9.catchType ≠ 0) (hlink : (Cond.classLink own x9.catchType (exN i)).before args s = true)
    (hcell : H[q9]? = some ce) (hv : ce.vm = .none) (hcl : s.vm.findClass (exN i) = some ce.cls)
    (kk : Wx p l e R s m args below meth c H locs cells slots Q (F0 m x9.handlerPc ls [.ref q9])) : vx_W p l e R s m args below meth c H locs cells slots Q (F0 m pc ls rest) q9 := by
  have hE := hF.2.2.2.2.2.2
  exact vx_catch hown pre x9 suf hsplit (fun z hz => by
    obtain ⟨a1, j, a2, a3⟩ := hpass z hz
    exact Or.inr ⟨a1, exN j, a2, hE.2.2 i j a3⟩) hx9 h0 hlink (va_Nw.use rfl (hE.2.1 i)) hcell hv hcl kk
theorem hx_go {a : Array Value} {H0 : Heap} (hr : va_Run p l e R s m args below meth c H locs cells slots 1 6 (F0 m pc ls st0) rest (va_Qi (fun r (_ : Unit) => r = v) (fun _ t => va_P D vwCl W2 t.heap) (va_A W1 H.size) a) (va_A W1 H.size))
    (hD : va_D A0 W1) (hS : va_S A0 H0 H locs) (hA : ∀ q, H0.size ≤ q → A0 q) (ha : W2.map Prod.fst = W1.map Prod.fst)
    (kk : ∀ (H1 : Heap) (locs1 : List Loc), va_P D vwCl W2 H1 → va_D A0 W2 → va_S A0 H0 H1 locs1 → Wx p l e R s m args below meth c H1 locs1 (cells + 1) (slots + 6) Q (F0 m (pc + 3) ls (.int v :: rest))) : Wx p l e R s m args below meth c H locs cells slots Q (F0 m pc ls st0) := by
  have hF := w_free hD hS hA
  refine va_calli hr hS (fun q _ h => hF q h) hF (fun r u t H1 locs1 ht hvm hw hB hz hk hS1 => ?_)
  subst hw
  have hB : va_P D vwCl W2 t.heap := hB
  rw [ht] at hB
  exact kk H1 locs1 hB (w_adr ha hD) hS1
/-- the law calls a helper -/
theorem hxS (hc : HX l D cy t y wy W1 W2 As v) (S : CallFix p m c cc nL s args Ts own) (hT : GoodIn Ts (va_wsS own index y wy)) (hw : wy = Cond.codeWith y bytes maxL ret hh :: ws') (hd : y.cls ≠ "java/lang/invoke/MethodHandle" ∧ y.cls ≠ "java/lang/invoke/VarHandle" ∧ (parseMethodDescriptor y.desc).map (fun d => d.parameters.length) = some n) (hrm : 9 ≤ R.frames ∧ 8 + (maxL + 11) + 200 ≤ R.locals) (hG : GK D cy s) (hF : FX t A0 s s.heap) (hP : va_P D vwCl W1 H) (hD : va_D A0 W1) (hS : va_S A0 s.heap H locs) (hA : ∀ q, s.heap.size ≤ q → A0 q) (ha : W2.map Prod.fst = W1.map Prod.fst) (hn : As.length = n) (hsize : ls.size = nL) (hst : st0 = As.reverse ++ rest) (hW : (rest.map fun v => v.category).sum ≤ 8) (hdg : decode cc pc = .ok (.invokestatic index, 3)) (hf : cells + 1 ≤ R.cells ∧ slots + 6 ≤ R.slots)
    (kk : ∀ (H1 : Heap) (locs1 : List Loc), va_P D vwCl W2 H1 → va_D A0 W2 → va_S A0 s.heap H1 locs1 → Wx p l e R s m args below meth c H1 locs1 (cells + 1) (slots + 6) Q (F0 m (pc + 3) ls (.int v :: rest))) : Wx p l e R s m args below meth c H locs cells slots Q (F0 m pc ls st0) :=
  hx_go (vx_runSW (As := As) (rest := rest) S (hc H.size) (vx_cwSW n S.2.2.2.2 hT hw rfl rfl hd hrm) (pre_muf hG hF hS hP hD (w_free hD hS hA)) rfl hn hsize hst (lv_room hW) hdg hf) hD hS hA ha kk
end HXR
theorem in_ea {code : Nat} {k : Int32} (h : (code = 0 ∧ k = 0) ∨ ∃ e ∈ ea, code = e.1 ∧ k = e.2) : (code = 0 ∧ k = 0) ∨ (code = 1 ∧ k = 1) ∨ (code = 2 ∧ k = 2) ∨ (code = 3 ∧ k = 3) := by
  rcases h with h | ⟨e, he, h1, h2⟩
  · exact Or.inl h
  · simp only [ea, List.mem_cons, List.not_mem_nil, or_false] at he
    rcases he with rfl | rfl | rfl
    · exact Or.inr (Or.inl ⟨h1, h2⟩)
    · exact Or.inr (Or.inr (Or.inl ⟨h1, h2⟩))
    · exact Or.inr (Or.inr (Or.inr (⟨h1, h2⟩)))
theorem in_eb {code : Nat} {k : Int32} (h : (code = 0 ∧ k = 0) ∨ ∃ e ∈ eb, code = e.1 ∧ k = e.2) : (code = 0 ∧ k = 0) ∨ (code = 1 ∧ k = 1) ∨ (code = 3 ∧ k = 2) := by
  rcases h with h | ⟨e, he, h1, h2⟩
  · exact Or.inl h
  · simp only [eb, List.mem_cons, List.not_mem_nil, or_false] at he
    rcases he with rfl | rfl
    · exact Or.inr (Or.inl ⟨h1, h2⟩)
    · exact Or.inr (Or.inr (⟨h1, h2⟩))
theorem in_ec {code : Nat} {k : Int32} (h : (code = 0 ∧ k = 0) ∨ ∃ e ∈ ec, code = e.1 ∧ k = e.2) : (code = 0 ∧ k = 0) ∨ (code = 2 ∧ k = 1) := by
  rcases h with h | ⟨e, he, h1, h2⟩
  · exact Or.inl h
  · simp only [ec, List.mem_cons, List.not_mem_nil, or_false] at he
    rcases he with rfl
    · exact Or.inr (⟨h1, h2⟩)
theorem in_ed {code : Nat} {k : Int32} (h : (code = 0 ∧ k = 0) ∨ ∃ e ∈ ed, code = e.1 ∧ k = e.2) : (code = 0 ∧ k = 0) ∨ (code = 1 ∧ k = 1) ∨ (code = 2 ∧ k = 2) := by
  rcases h with h | ⟨e, he, h1, h2⟩
  · exact Or.inl h
  · simp only [ed, List.mem_cons, List.not_mem_nil, or_false] at he
    rcases he with rfl | rfl
    · exact Or.inr (Or.inl ⟨h1, h2⟩)
    · exact Or.inr (Or.inr (⟨h1, h2⟩))
theorem in_ee {code : Nat} {k : Int32} (h : (code = 0 ∧ k = 0) ∨ ∃ e ∈ ee, code = e.1 ∧ k = e.2) : (code = 0 ∧ k = 0) ∨ (code = 1 ∧ k = 1) := by
  rcases h with h | ⟨e, he, h1, h2⟩
  · exact Or.inl h
  · simp only [ee, List.mem_cons, List.not_mem_nil, or_false] at he
    rcases he with rfl
    · exact Or.inr (⟨h1, h2⟩)
theorem in_ef {code : Nat} {k : Int32} (h : (code = 0 ∧ k = 0) ∨ ∃ e ∈ ef, code = e.1 ∧ k = e.2) : (code = 0 ∧ k = 0) ∨ (code = 3 ∧ k = 1) := by
  rcases h with h | ⟨e, he, h1, h2⟩
  · exact Or.inl h
  · simp only [ef, List.mem_cons, List.not_mem_nil, or_false] at he
    rcases he with rfl
    · exact Or.inr (⟨h1, h2⟩)
theorem in_eg {code : Nat} {k : Int32} (h : (code = 0 ∧ k = 0) ∨ ∃ e ∈ eg, code = e.1 ∧ k = e.2) : (code = 0 ∧ k = 0) ∨ (code = 2 ∧ k = 1) ∨ (code = 3 ∧ k = 2) := by
  rcases h with h | ⟨e, he, h1, h2⟩
  · exact Or.inl h
  · simp only [eg, List.mem_cons, List.not_mem_nil, or_false] at he
    rcases he with rfl | rfl
    · exact Or.inr (Or.inl ⟨h1, h2⟩)
    · exact Or.inr (Or.inr (⟨h1, h2⟩))
theorem hq_X8_append : yX8_append.cls = RX8 ∧ yX8_append.cls ≠ "java/lang/invoke/MethodHandle" ∧ yX8_append.cls ≠ "java/lang/invoke/VarHandle" ∧ (parseMethodDescriptor yX8_append.desc).map (fun d => d.parameters.length) = some 1 := by decide +kernel
theorem hq_X8_load : yX8_load.cls = RX8 ∧ yX8_load.cls ≠ "java/lang/invoke/MethodHandle" ∧ yX8_load.cls ≠ "java/lang/invoke/VarHandle" ∧ (parseMethodDescriptor yX8_load.desc).map (fun d => d.parameters.length) = some 0 := by decide +kernel
theorem hq_X8_about : yX8_about.cls = RX8 ∧ yX8_about.cls ≠ "java/lang/invoke/MethodHandle" ∧ yX8_about.cls ≠ "java/lang/invoke/VarHandle" ∧ (parseMethodDescriptor yX8_about.desc).map (fun d => d.parameters.length) = some 1 := by decide +kernel
theorem hq_X8_unit : yX8_unit.cls = RX8 ∧ yX8_unit.cls ≠ "java/lang/invoke/MethodHandle" ∧ yX8_unit.cls ≠ "java/lang/invoke/VarHandle" ∧ (parseMethodDescriptor yX8_unit.desc).map (fun d => d.parameters.length) = some 2 := by decide +kernel
theorem hq_X8_holder : yX8_holder.cls = RX8 ∧ yX8_holder.cls ≠ "java/lang/invoke/MethodHandle" ∧ yX8_holder.cls ≠ "java/lang/invoke/VarHandle" ∧ (parseMethodDescriptor yX8_holder.desc).map (fun d => d.parameters.length) = some 2 := by decide +kernel
theorem hq_X8_owed : yX8_owed.cls = RX8 ∧ yX8_owed.cls ≠ "java/lang/invoke/MethodHandle" ∧ yX8_owed.cls ≠ "java/lang/invoke/VarHandle" ∧ (parseMethodDescriptor yX8_owed.desc).map (fun d => d.parameters.length) = some 4 := by decide +kernel
theorem hq_X8_core : yX8_core.cls = RX8 ∧ yX8_core.cls ≠ "java/lang/invoke/MethodHandle" ∧ yX8_core.cls ≠ "java/lang/invoke/VarHandle" ∧ (parseMethodDescriptor yX8_core.desc).map (fun d => d.parameters.length) = some 3 := by decide +kernel
theorem hq_X8_setting : yX8_setting.cls = RX8 ∧ yX8_setting.cls ≠ "java/lang/invoke/MethodHandle" ∧ yX8_setting.cls ≠ "java/lang/invoke/VarHandle" ∧ (parseMethodDescriptor yX8_setting.desc).map (fun d => d.parameters.length) = some 1 := by decide +kernel
theorem hq_X8_come : yX8_come.cls = RX8 ∧ yX8_come.cls ≠ "java/lang/invoke/MethodHandle" ∧ yX8_come.cls ≠ "java/lang/invoke/VarHandle" ∧ (parseMethodDescriptor yX8_come.desc).map (fun d => d.parameters.length) = some 3 := by decide +kernel
theorem hq_X8_lend : yX8_lend.cls = RX8 ∧ yX8_lend.cls ≠ "java/lang/invoke/MethodHandle" ∧ yX8_lend.cls ≠ "java/lang/invoke/VarHandle" ∧ (parseMethodDescriptor yX8_lend.desc).map (fun d => d.parameters.length) = some 3 := by decide +kernel
theorem hq_X8_bring : yX8_bring.cls = RX8 ∧ yX8_bring.cls ≠ "java/lang/invoke/MethodHandle" ∧ yX8_bring.cls ≠ "java/lang/invoke/VarHandle" ∧ (parseMethodDescriptor yX8_bring.desc).map (fun d => d.parameters.length) = some 1 := by decide +kernel
theorem hq_X8_exchange : yX8_exchange.cls = RX8 ∧ yX8_exchange.cls ≠ "java/lang/invoke/MethodHandle" ∧ yX8_exchange.cls ≠ "java/lang/invoke/VarHandle" ∧ (parseMethodDescriptor yX8_exchange.desc).map (fun d => d.parameters.length) = some 2 := by decide +kernel
theorem hq_X8_advance : yX8_advance.cls = RX8 ∧ yX8_advance.cls ≠ "java/lang/invoke/MethodHandle" ∧ yX8_advance.cls ≠ "java/lang/invoke/VarHandle" ∧ (parseMethodDescriptor yX8_advance.desc).map (fun d => d.parameters.length) = some 3 := by decide +kernel
theorem hq_X8_deliver : yX8_deliver.cls = RX8 ∧ yX8_deliver.cls ≠ "java/lang/invoke/MethodHandle" ∧ yX8_deliver.cls ≠ "java/lang/invoke/VarHandle" ∧ (parseMethodDescriptor yX8_deliver.desc).map (fun d => d.parameters.length) = some 1 := by decide +kernel
theorem hq_X8_take : yX8_take.cls = RX8 ∧ yX8_take.cls ≠ "java/lang/invoke/MethodHandle" ∧ yX8_take.cls ≠ "java/lang/invoke/VarHandle" ∧ (parseMethodDescriptor yX8_take.desc).map (fun d => d.parameters.length) = some 3 := by decide +kernel
theorem hq_X8_settle : yX8_settle.cls = RX8 ∧ yX8_settle.cls ≠ "java/lang/invoke/MethodHandle" ∧ yX8_settle.cls ≠ "java/lang/invoke/VarHandle" ∧ (parseMethodDescriptor yX8_settle.desc).map (fun d => d.parameters.length) = some 4 := by decide +kernel
theorem hq_X8_buy : yX8_buy.cls = RX8 ∧ yX8_buy.cls ≠ "java/lang/invoke/MethodHandle" ∧ yX8_buy.cls ≠ "java/lang/invoke/VarHandle" ∧ (parseMethodDescriptor yX8_buy.desc).map (fun d => d.parameters.length) = some 2 := by decide +kernel
theorem hq_X8_days : yX8_days.cls = RX8 ∧ yX8_days.cls ≠ "java/lang/invoke/MethodHandle" ∧ yX8_days.cls ≠ "java/lang/invoke/VarHandle" ∧ (parseMethodDescriptor yX8_days.desc).map (fun d => d.parameters.length) = some 1 := by decide +kernel
theorem hq_X8_set : yX8_set.cls = RX8 ∧ yX8_set.cls ≠ "java/lang/invoke/MethodHandle" ∧ yX8_set.cls ≠ "java/lang/invoke/VarHandle" ∧ (parseMethodDescriptor yX8_set.desc).map (fun d => d.parameters.length) = some 2 := by decide +kernel
theorem hq_X8_undo : yX8_undo.cls = RX8 ∧ yX8_undo.cls ≠ "java/lang/invoke/MethodHandle" ∧ yX8_undo.cls ≠ "java/lang/invoke/VarHandle" ∧ (parseMethodDescriptor yX8_undo.desc).map (fun d => d.parameters.length) = some 0 := by decide +kernel
theorem hq_X8_complete : yX8_complete.cls = RX8 ∧ yX8_complete.cls ≠ "java/lang/invoke/MethodHandle" ∧ yX8_complete.cls ≠ "java/lang/invoke/VarHandle" ∧ (parseMethodDescriptor yX8_complete.desc).map (fun d => d.parameters.length) = some 2 := by decide +kernel
theorem hq_X8_takings : yX8_takings.cls = RX8 ∧ yX8_takings.cls ≠ "java/lang/invoke/MethodHandle" ∧ yX8_takings.cls ≠ "java/lang/invoke/VarHandle" ∧ (parseMethodDescriptor yX8_takings.desc).map (fun d => d.parameters.length) = some 2 := by decide +kernel
theorem hq_X8_bill : yX8_bill.cls = RX8 ∧ yX8_bill.cls ≠ "java/lang/invoke/MethodHandle" ∧ yX8_bill.cls ≠ "java/lang/invoke/VarHandle" ∧ (parseMethodDescriptor yX8_bill.desc).map (fun d => d.parameters.length) = some 2 := by decide +kernel
theorem hq_X8_cheapest : yX8_cheapest.cls = RX8 ∧ yX8_cheapest.cls ≠ "java/lang/invoke/MethodHandle" ∧ yX8_cheapest.cls ≠ "java/lang/invoke/VarHandle" ∧ (parseMethodDescriptor yX8_cheapest.desc).map (fun d => d.parameters.length) = some 2 := by decide +kernel
theorem hq_X8_runScript : yX8_runScript.cls = RX8 ∧ yX8_runScript.cls ≠ "java/lang/invoke/MethodHandle" ∧ yX8_runScript.cls ≠ "java/lang/invoke/VarHandle" ∧ (parseMethodDescriptor yX8_runScript.desc).map (fun d => d.parameters.length) = some 2 := by decide +kernel
theorem hq_X8_simulate : yX8_simulate.cls = RX8 ∧ yX8_simulate.cls ≠ "java/lang/invoke/MethodHandle" ∧ yX8_simulate.cls ≠ "java/lang/invoke/VarHandle" ∧ (parseMethodDescriptor yX8_simulate.desc).map (fun d => d.parameters.length) = some 2 := by decide +kernel
theorem hq_X8_save : yX8_save.cls = RX8 ∧ yX8_save.cls ≠ "java/lang/invoke/MethodHandle" ∧ yX8_save.cls ≠ "java/lang/invoke/VarHandle" ∧ (parseMethodDescriptor yX8_save.desc).map (fun d => d.parameters.length) = some 1 := by decide +kernel
theorem hq_X8_restore : yX8_restore.cls = RX8 ∧ yX8_restore.cls ≠ "java/lang/invoke/MethodHandle" ∧ yX8_restore.cls ≠ "java/lang/invoke/VarHandle" ∧ (parseMethodDescriptor yX8_restore.desc).map (fun d => d.parameters.length) = some 1 := by decide +kernel
