/-- where the constant things lie: FIRST_SETTING's array, MAX_SETTING's, the String constants, their byte arrays -/
abbrev FxA : Type := Nat × Nat × (Nat → Nat) × (Nat → Nat)
def fxF : Nat → Int32
  | 0 => 5
  | 1 => 100
  | _ => 20
def fxM : Nat → Int32
  | 0 => 99
  | _ => 999
def fxLen : List Nat := [3, 3, 1, 2, 3, 1, 0]
def fxByt : List (List Int32) := [[107, 104, 98], [117, 104, 116], [117], [117, 117], [117, 117, 112], [110], []]
def fxR (t : FxA) (U : State) : Prop := vk_R RX6 72 "khb" (t.2.2.1 0) U ∧ vk_R RX6 74 "uht" (t.2.2.1 1) U ∧ vk_R RX6 76 "u" (t.2.2.1 2) U ∧ vk_R RX6 78 "uu" (t.2.2.1 3) U ∧ vk_R RX6 80 "uup" (t.2.2.1 4) U ∧ vk_R RX6 82 "n" (t.2.2.1 5) U ∧ vk_R RX6 84 "" (t.2.2.1 6) U
/-- the classes of the exceptions that the methods throw, by their codes -/
def exN : Nat → String
  | 1 => "java/lang/IndexOutOfBoundsException"
  | 2 => "java/lang/IllegalArgumentException"
  | _ => "java/lang/IllegalStateException"
def fxE (U : State) : Prop := (va_Nw (.declares (Bundle.init0 "java/lang/RuntimeException")) U ∧ va_Nw (.declares (Bundle.init0 "java/lang/Exception")) U ∧ va_Nw (.declares (Bundle.init0 Bundle.tN)) U) ∧ (∀ i : Nat, va_Nw (.castable (exN i) (exN i)) U) ∧ ∀ i j : Nat, exN i ≠ exN j → va_Nc (exN i) (exN j) U
theorem fxE.warm {s U : State} (hW : s.WarmedH U.vm) (h : fxE s) : fxE U := ⟨⟨h.1.1.warmD hW, h.1.2.1.warmD hW, h.1.2.2.warmD hW⟩, fun i => (h.2.1 i).warmC hW, fun i j e => (h.2.2 i j e).moved hW.alike⟩
theorem fxE.same {u U : State} (hv : U.vm = u.vm) (h : fxE u) : fxE U := ⟨⟨va_Nw.same rfl hv.symm h.1.1, va_Nw.same rfl hv.symm h.1.2.1, va_Nw.same rfl hv.symm h.1.2.2⟩, fun i => va_Nw.same rfl hv.symm (h.2.1 i), fun i j e => (h.2.2 i j e).moved (by rw [hv]; exact Vm.Alike.refl _)⟩
def FX (t : FxA) (A : Nat → Prop) (U : State) (H : Heap) : Prop :=
  (va_Z "SparePool" "FIRST_SETTING" "[I" (.ref t.1) A U H ∧ va_Z "SparePool" "MAX_SETTING" "[I" (.ref t.2.1) A U H ∧ va_T .int t.1 3 (fun j => .int (fxF j)) A U H ∧ va_T .int t.2.1 3 (fun j => .int (fxM j)) A U H) ∧
  (vx_Zq Bundle.tN "UNASSIGNED_STACK" Bundle.steD A U H ∧ vx_Zq Bundle.tN "SUPPRESSED_SENTINEL" Bundle.listD A U H) ∧
  (vk_S 7 fxLen fxByt t.2.2.1 t.2.2.2 A U H ∧ fxR t U) ∧
  (va_Z "java/lang/String" "COMPACT_STRINGS" "Z" (.int 1) A U H ∧ va_Zq "jdk/internal/util/Preconditions" "SIOOBE_FORMATTER" "Ljava/util/function/BiFunction;" A U H ∧ va_AO RX5 U ∧ fxE U)
theorem fxR.warm {t : FxA} {s U : State} (hW : s.WarmedH U.vm) (h : fxR t s) : fxR t U := by
  obtain ⟨h1, h2, h3, h4, h5, h6, h7⟩ := h
  exact ⟨h1.warm hW, h2.warm hW, h3.warm hW, h4.warm hW, h5.warm hW, h6.warm hW, h7.warm hW⟩
theorem fxR.same {t : FxA} {u U : State} (hv : U.vm = u.vm) (h : fxR t u) : fxR t U := by
  obtain ⟨h1, h2, h3, h4, h5, h6, h7⟩ := h
  exact ⟨h1.same hv, h2.same hv, h3.same hv, h4.same hv, h5.same hv, h6.same hv, h7.same hv⟩
theorem FX.kept {t : FxA} {A B : Nat → Prop} {U : State} {H H1 : Heap} (h : FX t A U H) (hq : ∀ a : Nat, a < H.size → ¬ A a → H1[a]? = H[a]?) (hAB : ∀ q, B q → A q) : FX t B U H1 := by
  obtain ⟨⟨h1, h2, h3, h4⟩, ⟨h5, h6⟩, ⟨h7, h8⟩, ⟨h9, h10, h11, h12⟩⟩ := h
  exact ⟨⟨(h1.kept hq).narrow hAB, (h2.kept hq).narrow hAB, (h3.kept hq).narrow hAB, (h4.kept hq).narrow hAB⟩, ⟨(h5.kept hq).narrow hAB, (h6.kept hq).narrow hAB⟩, ⟨(h7.kept hq).narrow hAB, h8⟩, ⟨(h9.kept hq).narrow hAB, (h10.kept hq).narrow hAB, h11, h12⟩⟩
theorem FX.moved {t : FxA} {A : Nat → Prop} {u U : State} {H : Heap} (ha : u.vm.Alike U.vm) (hr : fxR t u → fxR t U) (he : fxE u → fxE U) (h : FX t A u H) : FX t A U H := by
  obtain ⟨⟨h1, h2, h3, h4⟩, ⟨h5, h6⟩, ⟨h7, h8⟩, ⟨h9, h10, h11, h12⟩⟩ := h
  exact ⟨⟨h1.moved ha, h2.moved ha, h3.moved ha, h4.moved ha⟩, ⟨h5.moved ha, h6.moved ha⟩, ⟨h7.moved ha, hr h8⟩, ⟨h9.moved ha, h10.moved ha, h11.moved ha, he h12⟩⟩
theorem FX.go {t : FxA} {A B : Nat → Prop} {s U : State} {H H1 : Heap} (h : FX t A s H) (hW : s.WarmedH U.vm) (hq : ∀ a : Nat, a < H.size → ¬ A a → H1[a]? = H[a]?) (hAB : ∀ q, B q → A q) : FX t B U H1 := (h.kept hq hAB).moved hW.alike (fun z => z.warm hW) (fun z => z.warm hW)
theorem FX.call {t : FxA} {A : Nat → Prop} {U : State} {g : JFrame} {mk : MethodId} {a : Array Value} (h : FX t A U U.heap) : FX t A (U.calling g mk a) (U.calling g mk a).heap := FX.moved (u := U) (U := U.calling g mk a) (Vm.Alike.refl U.vm) (fun z => z.same rfl) (fun z => z.same rfl) h
/-- contracts of methods that need these things -/
def ROf (l : Launch) (D : va_G) (cy : Nat → ClassId) (t : FxA) (A : Nat → Prop) (y : MethodName) (ws : List Cond) (rm : Room) (w : va_W) (As : List Value) (v : Int32) : Prop :=
  Met l y ws rm (va_Pc As (fun U => va_P D vwCl w U.heap ∧ GK D cy U ∧ FX t A U U.heap)) (vp_Si (fun r => r = v)) 0 0 (fun _ => False)
def ROr (l : Launch) (D : va_G) (cy : Nat → ClassId) (t : FxA) (A : Nat → Prop) (y : MethodName) (ws : List Cond) (rm : Room) (As : List Value) (v : Value) : Prop :=
  Met l y ws rm (va_Pc As (fun U => GK D cy U ∧ FX t A U U.heap)) (va_Sr (fun k => k = 0) (fun _ => v)) 0 0 (fun _ => False)
def ROv (l : Launch) (D : va_G) (cy : Nat → ClassId) (t : FxA) (A : Nat → Prop) (y : MethodName) (ws : List Cond) (rm : Room) (As : List Value) : Prop :=
  Met l y ws rm (va_Pc As (fun U => GK D cy U ∧ FX t A U U.heap)) (fun _ st o t => o = .returned none ∧ t.heap = st.heap) 0 0 (fun _ => False)
def MUf (l : Launch) (D : va_G) (cy : Nat → ClassId) (t : FxA) (y : MethodName) (ws : List Cond) (rm : Room) (w w' : va_W) (As : List Value) (v : Int32) : Prop := ∀ sz : Nat,
  Met l y ws rm (va_Pc As (fun U => U.heap.size = sz ∧ va_P D vwCl w U.heap ∧ va_D (fun _ => True) w ∧ GK D cy U ∧ FX t (va_A w sz) U U.heap)) (va_Qi (fun r (_ : Unit) => r = v) (fun _ t => va_P D vwCl w' t.heap) (va_A w sz)) 0 0 (va_A w sz)
def MVf (l : Launch) (D : va_G) (cy : Nat → ClassId) (t : FxA) (y : MethodName) (ws : List Cond) (rm : Room) (w w' : va_W) (As : List Value) : Prop := ∀ sz : Nat,
  Met l y ws rm (va_Pc As (fun U => U.heap.size = sz ∧ va_P D vwCl w U.heap ∧ va_D (fun _ => True) w ∧ GK D cy U ∧ FX t (va_A w sz) U U.heap)) (va_Qv (fun (_ : Unit) => True) (fun _ t => va_P D vwCl w' t.heap) (va_A w sz)) 0 0 (va_A w sz)
section FBODY
variable {l : Launch} {D : va_G} {cy : Nat → ClassId} {t : FxA} {y : MethodName} {ws ws' : List Cond} {rm : Room} {w w' : va_W} {As : List Value} {v : Int32} {vv : Value} {cc : ByteArray} {maxL : Nat} {ret : Option FieldType} {A : Nat → Prop}
theorem ROf.body (hy : plainName y.cls = true) (hw : ws = Cond.code y cc maxL ret :: ws') (hlen : (lg_sl As).length ≤ maxL)
    (k : ∀ p e s m below meth c, p.tables.exec = Jvm.exec → c.code = cc → c.maxLocals = maxL → meth.sig.returnType = ret → (∀ z ∈ ws, z.before As.toArray s = true) → s.vm.findClass y.cls = some m.cls → meth.locks = false → va_P D vwCl w s.heap → GK D cy s → FX t A s s.heap → ∀ ls : Array Slot, lv_has ls maxL (lv_args 0 As) →
      W p l e rm s m As.toArray below meth c s.heap [] 0 0 (MQ below (vp_Si (fun r => r = v)) As.toArray s 0 0 (fun _ => False)) (F0 m 0 ls [])) : ROf l D cy t A y ws rm w As v := by
  refine Met.ofW (cc := cc) (maxL := maxL) (ret := ret) hy hw ?_
  intro p e s m args below meth c s₁ B hml hv
  obtain ⟨rfl, hP, hG, hF⟩ := hv
  have hl := lv_entry As (n := maxL) hlen
  rw [lg_entry_eq]
  exact k p e s m below meth c B.exec B.bytes hml B.returns (atoms_spec (ws := ws) B.pre) (findClass_of_methodNamed B.named) B.notSynchronized hP hG hF _ hl
theorem ROr.body (hy : plainName y.cls = true) (hw : ws = Cond.code y cc maxL ret :: ws') (hlen : (lg_sl As).length ≤ maxL)
    (k : ∀ p e s m below meth c, p.tables.exec = Jvm.exec → c.code = cc → c.maxLocals = maxL → meth.sig.returnType = ret → (∀ z ∈ ws, z.before As.toArray s = true) → s.vm.findClass y.cls = some m.cls → meth.locks = false → GK D cy s → FX t A s s.heap → ∀ ls : Array Slot, lv_has ls maxL (lv_args 0 As) →
      W p l e rm s m As.toArray below meth c s.heap [] 0 0 (MQ below (va_Sr (fun k => k = 0) (fun _ => vv)) As.toArray s 0 0 (fun _ => False)) (F0 m 0 ls [])) : ROr l D cy t A y ws rm As vv := by
  refine Met.ofW (cc := cc) (maxL := maxL) (ret := ret) hy hw ?_
  intro p e s m args below meth c s₁ B hml hv
  obtain ⟨rfl, hG, hF⟩ := hv
  have hl := lv_entry As (n := maxL) hlen
  rw [lg_entry_eq]
  exact k p e s m below meth c B.exec B.bytes hml B.returns (atoms_spec (ws := ws) B.pre) (findClass_of_methodNamed B.named) B.notSynchronized hG hF _ hl
theorem ROv.body (hy : plainName y.cls = true) (hw : ws = Cond.code y cc maxL ret :: ws') (hlen : (lg_sl As).length ≤ maxL)
    (k : ∀ p e s m below meth c, p.tables.exec = Jvm.exec → c.code = cc → c.maxLocals = maxL → meth.sig.returnType = ret → (∀ z ∈ ws, z.before As.toArray s = true) → s.vm.findClass y.cls = some m.cls → meth.locks = false → GK D cy s → FX t A s s.heap → ∀ ls : Array Slot, lv_has ls maxL (lv_args 0 As) →
      W p l e rm s m As.toArray below meth c s.heap [] 0 0 (MQ below (fun _ st o t => o = .returned none ∧ t.heap = st.heap) As.toArray s 0 0 (fun _ => False)) (F0 m 0 ls [])) : ROv l D cy t A y ws rm As := by
  refine Met.ofW (cc := cc) (maxL := maxL) (ret := ret) hy hw ?_
  intro p e s m args below meth c s₁ B hml hv
  obtain ⟨rfl, hG, hF⟩ := hv
  have hl := lv_entry As (n := maxL) hlen
  rw [lg_entry_eq]
  exact k p e s m below meth c B.exec B.bytes hml B.returns (atoms_spec (ws := ws) B.pre) (findClass_of_methodNamed B.named) B.notSynchronized hG hF _ hl
theorem MUf.body (hy : plainName y.cls = true) (hw : ws = Cond.code y cc maxL ret :: ws') (hlen : (lg_sl As).length ≤ maxL)
    (k : ∀ p e s m below meth c, p.tables.exec = Jvm.exec → c.code = cc → c.maxLocals = maxL → meth.sig.returnType = ret → (∀ z ∈ ws, z.before As.toArray s = true) → s.vm.findClass y.cls = some m.cls → meth.locks = false → va_P D vwCl w s.heap → GK D cy s → ∀ ls : Array Slot, lv_has ls maxL (lv_args 0 As) →
      ∀ A : Nat → Prop, va_D A w → (∀ q, s.heap.size ≤ q → A q) → va_S A s.heap s.heap [] → FX t A s s.heap →
      W p l e rm s m As.toArray below meth c s.heap [] 0 0 (MQ below (va_Qi (fun r (_ : Unit) => r = v) (fun _ t => va_P D vwCl w' t.heap) A) As.toArray s 0 0 A) (F0 m 0 ls [])) : MUf l D cy t y ws rm w w' As v := by
  intro sz
  refine Met.ofW (cc := cc) (maxL := maxL) (ret := ret) hy hw ?_
  intro p e s m args below meth c s₁ B hml hv
  obtain ⟨rfl, hsz, hP, hD, hG, hF⟩ := hv
  subst hsz
  have hl := lv_entry As (n := maxL) hlen
  rw [lg_entry_eq]
  exact k p e s m below meth c B.exec B.bytes hml B.returns (atoms_spec (ws := ws) B.pre) (findClass_of_methodNamed B.named) B.notSynchronized hP hG _ hl _ (hD.self (sz := s.heap.size)) (fun q h => Or.inr h) va_S.rf hF
theorem MVf.body (hy : plainName y.cls = true) (hw : ws = Cond.code y cc maxL ret :: ws') (hlen : (lg_sl As).length ≤ maxL)
    (k : ∀ p e s m below meth c, p.tables.exec = Jvm.exec → c.code = cc → c.maxLocals = maxL → meth.sig.returnType = ret → (∀ z ∈ ws, z.before As.toArray s = true) → s.vm.findClass y.cls = some m.cls → meth.locks = false → va_P D vwCl w s.heap → GK D cy s → ∀ ls : Array Slot, lv_has ls maxL (lv_args 0 As) →
      ∀ A : Nat → Prop, va_D A w → (∀ q, s.heap.size ≤ q → A q) → va_S A s.heap s.heap [] → FX t A s s.heap →
      W p l e rm s m As.toArray below meth c s.heap [] 0 0 (MQ below (va_Qv (fun (_ : Unit) => True) (fun _ t => va_P D vwCl w' t.heap) A) As.toArray s 0 0 A) (F0 m 0 ls [])) : MVf l D cy t y ws rm w w' As := by
  intro sz
  refine Met.ofW (cc := cc) (maxL := maxL) (ret := ret) hy hw ?_
  intro p e s m args below meth c s₁ B hml hv
  obtain ⟨rfl, hsz, hP, hD, hG, hF⟩ := hv
  subst hsz
  have hl := lv_entry As (n := maxL) hlen
  rw [lg_entry_eq]
  exact k p e s m below meth c B.exec B.bytes hml B.returns (atoms_spec (ws := ws) B.pre) (findClass_of_methodNamed B.named) B.notSynchronized hP hG _ hl _ (hD.self (sz := s.heap.size)) (fun q h => Or.inr h) va_S.rf hF
end FBODY
section FCALLS
variable {p : Program} {l : Launch} {e : Env} {R : Room} {s : State} {m : MethodId} {args : Array Value} {below : List Frame} {meth : Method} {c : Code} {H : Heap} {locs : List Loc} {cells slots : Nat} {Q : State → Prop}
variable {pc : Nat} {ls : Array Slot} {rest : List Value} {D : va_G} {cy : Nat → ClassId} {cc : ByteArray} {nL : Nat} {t : FxA}
variable {y : MethodName} {bytes : ByteArray} {maxL n index : Nat} {ret : Option FieldType} {wy ws' : List Cond} {rm : Room} {Ts : List Cond} {own : String} {b : Addr} {As : List Value} {st0 : List Value} {wc w' : va_W} {v : Int32} {vv : Value} {A0 : Nat → Prop} {ws : va_W}
theorem pre_rof (hG : GK D cy s) (hF : FX t A0 s s.heap) (hS : va_S A0 s.heap H locs) (hP : va_P D vwCl wc H) : PreS s H (va_Pc As (fun U => va_P D vwCl wc U.heap ∧ GK D cy U ∧ FX t A0 U U.heap)) As :=
  ⟨fun _ _ _ _ h => ⟨h.1, h.2.1, h.2.2.1.call, h.2.2.2.call⟩, fun U hU hW => ⟨rfl, by rw [hU]; exact hP, hG.warm hW, by rw [hU]; exact hF.go hW hS.2.1 (fun _ z => z)⟩⟩
theorem pre_ror (hG : GK D cy s) (hF : FX t A0 s s.heap) (hS : va_S A0 s.heap H locs) : PreS s H (va_Pc As (fun U => GK D cy U ∧ FX t A0 U U.heap)) As :=
  ⟨fun _ _ _ _ h => ⟨h.1, h.2.1.call, h.2.2.call⟩, fun U hU hW => ⟨rfl, hG.warm hW, by rw [hU]; exact hF.go hW hS.2.1 (fun _ z => z)⟩⟩
theorem pre_muf (hG : GK D cy s) (hF : FX t A0 s s.heap) (hS : va_S A0 s.heap H locs) (hP : va_P D vwCl wc H) {A : Nat → Prop} (hD : va_D A wc) (hf : ∀ q, va_A wc H.size q → A0 q) : PreS s H (va_Pc As (fun U => U.heap.size = H.size ∧ va_P D vwCl wc U.heap ∧ va_D (fun _ => True) wc ∧ GK D cy U ∧ FX t (va_A wc H.size) U U.heap)) As :=
  ⟨fun _ _ _ _ h => ⟨h.1, h.2.1, h.2.2.1, h.2.2.2.1, h.2.2.2.2.1.call, h.2.2.2.2.2.call⟩, fun U hU hW => ⟨rfl, by rw [hU], by rw [hU]; exact hP, hD.weaken (fun _ _ _ _ => trivial), hG.warm hW, by rw [hU]; exact hF.go hW hS.2.1 hf⟩⟩
theorem ro_gor {a : Array Value} (hr : va_Run p l e R s m args below meth c H locs cells slots 0 0 (F0 m pc ls st0) rest (va_Sr (fun k => k = 0) (fun _ => vv) a) (fun _ => False))
    (kk : W p l e R s m args below meth c H locs cells slots Q (F0 m (pc + 3) ls (vv :: rest))) : W p l e R s m args below meth c H locs cells slots Q (F0 m pc ls st0) := by
  intro T hT X
  obtain ⟨w, st₀, t, T', L, h0, X', hL, e1, -, ⟨k, hv, hp, hh⟩, st⟩ := hr T hT X
  cases hv
  obtain ⟨t2, a1, b1⟩ := kk T' (by rw [e1, hh, h0]) (Stand.forget X' (fun q h => (hL q h).elim))
  exact ⟨t2, st t2 a1, b1⟩
theorem ro_gov {a : Array Value} (hr : va_Run p l e R s m args below meth c H locs cells slots 0 0 (F0 m pc ls st0) rest ((fun _ st o t => o = .returned none ∧ t.heap = st.heap : Array Value → State → Outcome → State → Prop) a) (fun _ => False))
    (kk : W p l e R s m args below meth c H locs cells slots Q (F0 m (pc + 3) ls rest)) : W p l e R s m args below meth c H locs cells slots Q (F0 m pc ls st0) := by
  intro T hT X
  obtain ⟨w, st₀, t, T', L, h0, X', hL, e1, -, ⟨hv, hh⟩, st⟩ := hr T hT X
  cases hv
  obtain ⟨t2, a1, b1⟩ := kk T' (by rw [e1, hh, h0]) (Stand.forget X' (fun q h => (hL q h).elim))
  exact ⟨t2, st t2 a1, b1⟩
theorem rfS (hc : ROf l D cy t A0 y wy rm wc As v) (S : CallFix p m c cc nL s args Ts own) (hT : GoodIn Ts (wsS own index y wy)) (hw : wy = Cond.code y bytes maxL ret :: ws') (hd : y.cls = own ∧ y.cls ≠ "java/lang/invoke/MethodHandle" ∧ y.cls ≠ "java/lang/invoke/VarHandle" ∧ (parseMethodDescriptor y.desc).map (fun d => d.parameters.length) = some n) (hrm : rm.cells = 0 ∧ rm.slots = 0 ∧ rm.frames + 1 ≤ R.frames ∧ 8 + (maxL + 11) + rm.locals ≤ R.locals) (hG : GK D cy s) (hF : FX t A0 s s.heap) (hS : va_S A0 s.heap H locs) (hP : va_P D vwCl wc H) (hn : As.length = n) (hsize : ls.size = nL) (hst : st0 = As.reverse ++ rest) (hW : (rest.map fun v => v.category).sum ≤ 8) (hdg : decode cc pc = .ok (.invokestatic index, 3)) (hf : cells ≤ R.cells ∧ slots ≤ R.slots) (kk : W p l e R s m args below meth c H locs cells slots Q (F0 m (pc + 3) ls (.int v :: rest))) : W p l e R s m args below meth c H locs cells slots Q (F0 m pc ls st0) :=
  ro_go (va_runS (As := As) (rest := rest) S hc (cwS n S.2.2.2.2 hT hw hrm.1 hrm.2.1 hd hrm.2.2) (pre_rof hG hF hS hP) rfl hn hsize hst (lv_room hW) hdg hf) kk
theorem rrS (hc : ROr l D cy t A0 y wy rm As vv) (S : CallFix p m c cc nL s args Ts own) (hT : GoodIn Ts (wsS own index y wy)) (hw : wy = Cond.code y bytes maxL ret :: ws') (hd : y.cls = own ∧ y.cls ≠ "java/lang/invoke/MethodHandle" ∧ y.cls ≠ "java/lang/invoke/VarHandle" ∧ (parseMethodDescriptor y.desc).map (fun d => d.parameters.length) = some n) (hrm : rm.cells = 0 ∧ rm.slots = 0 ∧ rm.frames + 1 ≤ R.frames ∧ 8 + (maxL + 11) + rm.locals ≤ R.locals) (hG : GK D cy s) (hF : FX t A0 s s.heap) (hS : va_S A0 s.heap H locs) (hn : As.length = n) (hsize : ls.size = nL) (hst : st0 = As.reverse ++ rest) (hW : (rest.map fun v => v.category).sum ≤ 8) (hdg : decode cc pc = .ok (.invokestatic index, 3)) (hf : cells ≤ R.cells ∧ slots ≤ R.slots) (kk : W p l e R s m args below meth c H locs cells slots Q (F0 m (pc + 3) ls (vv :: rest))) : W p l e R s m args below meth c H locs cells slots Q (F0 m pc ls st0) :=
  ro_gor (va_runS (As := As) (rest := rest) S hc (cwS n S.2.2.2.2 hT hw hrm.1 hrm.2.1 hd hrm.2.2) (pre_ror hG hF hS) rfl hn hsize hst (lv_room hW) hdg hf) kk
theorem rvS (hc : ROv l D cy t A0 y wy rm As) (S : CallFix p m c cc nL s args Ts own) (hT : GoodIn Ts (wsS own index y wy)) (hw : wy = Cond.code y bytes maxL ret :: ws') (hd : y.cls = own ∧ y.cls ≠ "java/lang/invoke/MethodHandle" ∧ y.cls ≠ "java/lang/invoke/VarHandle" ∧ (parseMethodDescriptor y.desc).map (fun d => d.parameters.length) = some n) (hrm : rm.cells = 0 ∧ rm.slots = 0 ∧ rm.frames + 1 ≤ R.frames ∧ 8 + (maxL + 11) + rm.locals ≤ R.locals) (hG : GK D cy s) (hF : FX t A0 s s.heap) (hS : va_S A0 s.heap H locs) (hn : As.length = n) (hsize : ls.size = nL) (hst : st0 = As.reverse ++ rest) (hW : (rest.map fun v => v.category).sum ≤ 8) (hdg : decode cc pc = .ok (.invokestatic index, 3)) (hf : cells ≤ R.cells ∧ slots ≤ R.slots) (kk : W p l e R s m args below meth c H locs cells slots Q (F0 m (pc + 3) ls (rest))) : W p l e R s m args below meth c H locs cells slots Q (F0 m pc ls st0) :=
  ro_gov (a := As.toArray) (va_runS (As := As) (rest := rest) S hc (cwS n S.2.2.2.2 hT hw hrm.1 hrm.2.1 hd hrm.2.2) (pre_ror hG hF hS) rfl hn hsize hst (lv_room hW) hdg hf) kk
theorem rfA (hc : ROf l D cy t A0 y wy rm wc As v) (S : CallFix p m c cc nL s args Ts own) (hT : GoodIn Ts (va_wsS own index y wy)) (hw : wy = Cond.code y bytes maxL ret :: ws') (hd : y.cls ≠ "java/lang/invoke/MethodHandle" ∧ y.cls ≠ "java/lang/invoke/VarHandle" ∧ (parseMethodDescriptor y.desc).map (fun d => d.parameters.length) = some n) (hrm : rm.cells = 0 ∧ rm.slots = 0 ∧ rm.frames + 1 ≤ R.frames ∧ 8 + (maxL + 11) + rm.locals ≤ R.locals) (hG : GK D cy s) (hF : FX t A0 s s.heap) (hS : va_S A0 s.heap H locs) (hP : va_P D vwCl wc H) (hn : As.length = n) (hsize : ls.size = nL) (hst : st0 = As.reverse ++ rest) (hW : (rest.map fun v => v.category).sum ≤ 8) (hdg : decode cc pc = .ok (.invokestatic index, 3)) (hf : cells ≤ R.cells ∧ slots ≤ R.slots) (kk : W p l e R s m args below meth c H locs cells slots Q (F0 m (pc + 3) ls (.int v :: rest))) : W p l e R s m args below meth c H locs cells slots Q (F0 m pc ls st0) :=
  ro_go (va_runS (As := As) (rest := rest) S hc (va_cwS n S.2.2.2.2 hT hw hrm.1 hrm.2.1 hd hrm.2.2) (pre_rof hG hF hS hP) rfl hn hsize hst (lv_room hW) hdg hf) kk
theorem rvA (hc : ROv l D cy t A0 y wy rm As) (S : CallFix p m c cc nL s args Ts own) (hT : GoodIn Ts (va_wsS own index y wy)) (hw : wy = Cond.code y bytes maxL ret :: ws') (hd : y.cls ≠ "java/lang/invoke/MethodHandle" ∧ y.cls ≠ "java/lang/invoke/VarHandle" ∧ (parseMethodDescriptor y.desc).map (fun d => d.parameters.length) = some n) (hrm : rm.cells = 0 ∧ rm.slots = 0 ∧ rm.frames + 1 ≤ R.frames ∧ 8 + (maxL + 11) + rm.locals ≤ R.locals) (hG : GK D cy s) (hF : FX t A0 s s.heap) (hS : va_S A0 s.heap H locs) (hn : As.length = n) (hsize : ls.size = nL) (hst : st0 = As.reverse ++ rest) (hW : (rest.map fun v => v.category).sum ≤ 8) (hdg : decode cc pc = .ok (.invokestatic index, 3)) (hf : cells ≤ R.cells ∧ slots ≤ R.slots) (kk : W p l e R s m args below meth c H locs cells slots Q (F0 m (pc + 3) ls (rest))) : W p l e R s m args below meth c H locs cells slots Q (F0 m pc ls st0) :=
  ro_gov (a := As.toArray) (va_runS (As := As) (rest := rest) S hc (va_cwS n S.2.2.2.2 hT hw hrm.1 hrm.2.1 hd hrm.2.2) (pre_ror hG hF hS) rfl hn hsize hst (lv_room hW) hdg hf) kk
theorem rfK {C : String} (hc : ROf l D cy t A0 y wy rm wc (.ref b :: As) v) (S : CallFix p m c cc nL s args Ts own) (hT : GoodIn Ts (wsV own index C y wy)) (hw : wy = Cond.code y bytes maxL ret :: ws') (hd : y.cls = C ∧ y.cls ≠ "java/lang/invoke/MethodHandle" ∧ y.cls ≠ "java/lang/invoke/VarHandle" ∧ (parseMethodDescriptor y.desc).map (fun d => d.parameters.length) = some n) (hrm : rm.cells = 0 ∧ rm.slots = 0 ∧ rm.frames + 1 ≤ R.frames ∧ 8 + (maxL + 11) + rm.locals ≤ R.locals) (hG : GK D cy s) (hF : FX t A0 s s.heap) (hS : va_S A0 s.heap H locs) (hP : va_P D vwCl wc H) (hrec : ∃ cell : Cell, H[b]? = some cell ∧ cell.vm.isStatics = false ∧ s.vm.findClass C = some cell.cls) (hn : As.length = n) (hsize : ls.size = nL) (hst : st0 = As.reverse ++ .ref b :: rest) (hW : (rest.map fun v => v.category).sum ≤ 8) (hdg : decode cc pc = .ok (.invokevirtual index, 3)) (hf : cells ≤ R.cells ∧ slots ≤ R.slots) (kk : W p l e R s m args below meth c H locs cells slots Q (F0 m (pc + 3) ls (.int v :: rest))) : W p l e R s m args below meth c H locs cells slots Q (F0 m pc ls st0) :=
  ro_go (va_runV (As := As) (rest := rest) S hc (cwV n S.2.2.2.2 hT hw hrm.1 hrm.2.1 hd hrm.2.2) ⟨(pre_rof (As := .ref b :: As) hG hF hS hP).1, hrec, (pre_rof (As := .ref b :: As) hG hF hS hP).2⟩ rfl hn hsize hst (lv_room hW) hdg hf) kk
theorem mufV {q : vw_C} {ci : Nat} {fs : List Value} {C : String} (hc : MUf l D cy t y wy rm wc w' (.ref b :: As) v) (S : CallFix p m c cc nL s args Ts own) (hT : GoodIn Ts (wsV own index C y wy)) (hw : wy = Cond.code y bytes maxL ret :: ws') (hd : y.cls = C ∧ y.cls ≠ "java/lang/invoke/MethodHandle" ∧ y.cls ≠ "java/lang/invoke/VarHandle" ∧ (parseMethodDescriptor y.desc).map (fun d => d.parameters.length) = some n) (hrm : rm.cells = 0 ∧ rm.slots = 0 ∧ rm.frames + 1 ≤ R.frames ∧ 8 + (maxL + 11) + rm.locals ≤ R.locals) (hG : GK D cy s) (hF : FX t A0 s s.heap) (hS : va_S A0 s.heap H locs) (hP : va_P D vwCl ws H) (hD : va_D A0 ws) (hA : ∀ q, s.heap.size ≤ q → A0 q) (is : List Nat) (hni : va_nd is = true) (hC : is.map (fun i => ws[i]?) = wc.map some) (ha : w'.map Prod.fst = wc.map Prod.fst) (hcl : vwCl[ci]? = some q) (hq : q.1 = C) (he : wc[0]? = some (b, .inr (ci, fs))) (hn : As.length = n) (hsize : ls.size = nL) (hst : st0 = As.reverse ++ .ref b :: rest) (hW : (rest.map fun v => v.category).sum ≤ 8) (hdg : decode cc pc = .ok (.invokevirtual index, 3)) (hf : cells ≤ R.cells ∧ slots ≤ R.slots) (kk : ∀ (H1 : Heap) (locs1 : List Loc), va_P D vwCl (va_rep is w' ws) H1 → va_D A0 (va_rep is w' ws) → va_S A0 s.heap H1 locs1 → W p l e R s m args below meth c H1 locs1 cells slots Q (F0 m (pc + 3) ls (.int v :: rest))) : W p l e R s m args below meth c H locs cells slots Q (F0 m pc ls st0) := by
  have hDc := hD.sub is hni hC
  have hPc : va_P D vwCl wc H := va_subP hP hC
  have hfr := va_free hD hS hA is hC
  exact mu_goi (va_runV (As := As) (rest := rest) S (hc H.size) (cwV n S.2.2.2.2 hT hw hrm.1 hrm.2.1 hd hrm.2.2) (pre_v hG hPc hcl hq he (pre_muf hG hF hS hPc hDc hfr)) rfl hn hsize hst (lv_room hW) hdg hf) hP hD hS hA is hC ha kk
theorem mufVN {q : vw_C} {ci : Nat} {fs : List Value} {C host : String} (hc : MUf l D cy t y wy rm wc w' (.ref b :: As) v) (S : CallFix p m c cc nL s args Ts own) (hT : GoodIn Ts wy) (hlk : va_Nw (.methodLinkNest own index y host) s) (hini : (Cond.initialized y.cls).before args s = true) (him : (Cond.instanceMethod y).before args s = true) (hse : (Cond.selects C y y).before args s = true) (hw : wy = Cond.code y bytes maxL ret :: ws') (hd : y.cls = C ∧ y.cls ≠ "java/lang/invoke/MethodHandle" ∧ y.cls ≠ "java/lang/invoke/VarHandle" ∧ (parseMethodDescriptor y.desc).map (fun d => d.parameters.length) = some n) (hrm : rm.cells = 0 ∧ rm.slots = 0 ∧ rm.frames + 1 ≤ R.frames ∧ 8 + (maxL + 11) + rm.locals ≤ R.locals) (hG : GK D cy s) (hF : FX t A0 s s.heap) (hS : va_S A0 s.heap H locs) (hP : va_P D vwCl ws H) (hD : va_D A0 ws) (hA : ∀ q, s.heap.size ≤ q → A0 q) (is : List Nat) (hni : va_nd is = true) (hC : is.map (fun i => ws[i]?) = wc.map some) (ha : w'.map Prod.fst = wc.map Prod.fst) (hcl : vwCl[ci]? = some q) (hq : q.1 = C) (he : wc[0]? = some (b, .inr (ci, fs))) (hn : As.length = n) (hsize : ls.size = nL) (hst : st0 = As.reverse ++ .ref b :: rest) (hW : (rest.map fun v => v.category).sum ≤ 8) (hdg : decode cc pc = .ok (.invokevirtual index, 3)) (hf : cells ≤ R.cells ∧ slots ≤ R.slots) (kk : ∀ (H1 : Heap) (locs1 : List Loc), va_P D vwCl (va_rep is w' ws) H1 → va_D A0 (va_rep is w' ws) → va_S A0 s.heap H1 locs1 → W p l e R s m args below meth c H1 locs1 cells slots Q (F0 m (pc + 3) ls (.int v :: rest))) : W p l e R s m args below meth c H locs cells slots Q (F0 m pc ls st0) := by
  have hDc := hD.sub is hni hC
  have hPc : va_P D vwCl wc H := va_subP hP hC
  have hfr := va_free hD hS hA is hC
  exact mu_goi (va_runVN (As := As) (rest := rest) S (hc H.size) ⟨va_cnB n S.2.2.2.2 hT hw hrm.1 hrm.2.1 hlk hini hd.2 hrm.2.2, him, hse⟩ (pre_v hG hPc hcl hq he (pre_muf hG hF hS hPc hDc hfr)) rfl hn hsize hst (lv_room hW) hdg hf) hP hD hS hA is hC ha kk
theorem mvfV {q : vw_C} {ci : Nat} {fs : List Value} {C : String} (hc : MVf l D cy t y wy rm wc w' (.ref b :: As)) (S : CallFix p m c cc nL s args Ts own) (hT : GoodIn Ts (wsV own index C y wy)) (hw : wy = Cond.code y bytes maxL ret :: ws') (hd : y.cls = C ∧ y.cls ≠ "java/lang/invoke/MethodHandle" ∧ y.cls ≠ "java/lang/invoke/VarHandle" ∧ (parseMethodDescriptor y.desc).map (fun d => d.parameters.length) = some n) (hrm : rm.cells = 0 ∧ rm.slots = 0 ∧ rm.frames + 1 ≤ R.frames ∧ 8 + (maxL + 11) + rm.locals ≤ R.locals) (hG : GK D cy s) (hF : FX t A0 s s.heap) (hS : va_S A0 s.heap H locs) (hP : va_P D vwCl ws H) (hD : va_D A0 ws) (hA : ∀ q, s.heap.size ≤ q → A0 q) (is : List Nat) (hni : va_nd is = true) (hC : is.map (fun i => ws[i]?) = wc.map some) (ha : w'.map Prod.fst = wc.map Prod.fst) (hcl : vwCl[ci]? = some q) (hq : q.1 = C) (he : wc[0]? = some (b, .inr (ci, fs))) (hn : As.length = n) (hsize : ls.size = nL) (hst : st0 = As.reverse ++ .ref b :: rest) (hW : (rest.map fun v => v.category).sum ≤ 8) (hdg : decode cc pc = .ok (.invokevirtual index, 3)) (hf : cells ≤ R.cells ∧ slots ≤ R.slots) (kk : ∀ (H1 : Heap) (locs1 : List Loc), va_P D vwCl (va_rep is w' ws) H1 → va_D A0 (va_rep is w' ws) → va_S A0 s.heap H1 locs1 → W p l e R s m args below meth c H1 locs1 cells slots Q (F0 m (pc + 3) ls (rest))) : W p l e R s m args below meth c H locs cells slots Q (F0 m pc ls st0) := by
  have hDc := hD.sub is hni hC
  have hPc : va_P D vwCl wc H := va_subP hP hC
  have hfr := va_free hD hS hA is hC
  exact mu_gov (va_runV (As := As) (rest := rest) S (hc H.size) (cwV n S.2.2.2.2 hT hw hrm.1 hrm.2.1 hd hrm.2.2) (pre_v hG hPc hcl hq he (pre_muf hG hF hS hPc hDc hfr)) rfl hn hsize hst (lv_room hW) hdg hf) hP hD hS hA is hC ha kk
theorem mvfVN {q : vw_C} {ci : Nat} {fs : List Value} {C host : String} (hc : MVf l D cy t y wy rm wc w' (.ref b :: As)) (S : CallFix p m c cc nL s args Ts own) (hT : GoodIn Ts wy) (hlk : va_Nw (.methodLinkNest own index y host) s) (hini : (Cond.initialized y.cls).before args s = true) (him : (Cond.instanceMethod y).before args s = true) (hse : (Cond.selects C y y).before args s = true) (hw : wy = Cond.code y bytes maxL ret :: ws') (hd : y.cls = C ∧ y.cls ≠ "java/lang/invoke/MethodHandle" ∧ y.cls ≠ "java/lang/invoke/VarHandle" ∧ (parseMethodDescriptor y.desc).map (fun d => d.parameters.length) = some n) (hrm : rm.cells = 0 ∧ rm.slots = 0 ∧ rm.frames + 1 ≤ R.frames ∧ 8 + (maxL + 11) + rm.locals ≤ R.locals) (hG : GK D cy s) (hF : FX t A0 s s.heap) (hS : va_S A0 s.heap H locs) (hP : va_P D vwCl ws H) (hD : va_D A0 ws) (hA : ∀ q, s.heap.size ≤ q → A0 q) (is : List Nat) (hni : va_nd is = true) (hC : is.map (fun i => ws[i]?) = wc.map some) (ha : w'.map Prod.fst = wc.map Prod.fst) (hcl : vwCl[ci]? = some q) (hq : q.1 = C) (he : wc[0]? = some (b, .inr (ci, fs))) (hn : As.length = n) (hsize : ls.size = nL) (hst : st0 = As.reverse ++ .ref b :: rest) (hW : (rest.map fun v => v.category).sum ≤ 8) (hdg : decode cc pc = .ok (.invokevirtual index, 3)) (hf : cells ≤ R.cells ∧ slots ≤ R.slots) (kk : ∀ (H1 : Heap) (locs1 : List Loc), va_P D vwCl (va_rep is w' ws) H1 → va_D A0 (va_rep is w' ws) → va_S A0 s.heap H1 locs1 → W p l e R s m args below meth c H1 locs1 cells slots Q (F0 m (pc + 3) ls (rest))) : W p l e R s m args below meth c H locs cells slots Q (F0 m pc ls st0) := by
  have hDc := hD.sub is hni hC
  have hPc : va_P D vwCl wc H := va_subP hP hC
  have hfr := va_free hD hS hA is hC
  exact mu_gov (va_runVN (As := As) (rest := rest) S (hc H.size) ⟨va_cnB n S.2.2.2.2 hT hw hrm.1 hrm.2.1 hlk hini hd.2 hrm.2.2, him, hse⟩ (pre_v hG hPc hcl hq he (pre_muf hG hF hS hPc hDc hfr)) rfl hn hsize hst (lv_room hW) hdg hf) hP hD hS hA is hC ha kk
theorem ro_aret {x : Value} {a : Addr} (hx : p.tables.exec = Jvm.exec) (hb : c.code = cc) {E : String} (hr : meth.sig.returnType = some (.object E)) (hlocks : meth.locks = false) (hdg : decode cc pc = .ok (.areturn, 1)) (hv : Value.ref a = x) : W p l e R s m args below meth c s.heap [] 0 0 (MQ below (va_Sr (fun k => k = 0) (fun _ => x)) args s 0 0 (fun _ => False)) (F0 m pc ls [.ref a]) := by
  subst hv
  exact W.aret hx hb hr (Or.inl ⟨_, rfl⟩) (Or.inr ⟨_, rfl⟩) (fun t ht _ => ⟨0, rfl, rfl, ht⟩) (fun _ h => by cases h) hdg hlocks
theorem ro_vret (hx : p.tables.exec = Jvm.exec) (hb : c.code = cc) (hr : meth.sig.returnType = none) (hlocks : meth.locks = false) (hdg : decode cc pc = .ok (.return_, 1)) : W p l e R s m args below meth c s.heap [] 0 0 (MQ below (fun _ st o t => o = .returned none ∧ t.heap = st.heap) args s 0 0 (fun _ => False)) (F0 m pc ls []) :=
  W.vret hx hb hr (fun t ht _ => ⟨rfl, ht⟩) (fun _ h => by cases h) hdg hlocks
/-- arraycopy out of a static int array that nobody writes -/
theorem fx_copy {tys : List (ClassId × FieldType)} {cl : List vw_C} {A : Nat → Prop} {a : Nat} (hexec : p.tables.exec = Jvm.exec) (hb : c.code = cc) (hml : c.maxLocals = ls.size) (hown : s.vm.findClass own = some m.cls) (hlink : (Cond.methodLink own index arraycopyName).before args s = true) (hnat : (Cond.native arraycopyName).before args s = true) (hstat : (Cond.static arraycopyName).before args s = true) (hini : (Cond.initialized "java/lang/System").before args s = true)
    (hK : va_K D cl tys s) (hP : va_P D cl ws H) (hD : va_D A ws) (hS : va_S A s.heap H locs) {b0 n0 : Nat} {f : Nat → Int32} (hX : va_T .int b0 n0 (fun j => .int (f j)) A s s.heap) (q1 t1 : Nat) {c1 : ClassId} {n1 : Nat} {g : Nat → Int32} (ha1 : ws[q1]? = some (a, .inl (c1, n1, .inl g))) (ht1 : tys[t1]? = some (c1, .int))
    {sp dp k : Int32} (h1 : ¬ sp < 0) (h2 : ¬ dp < 0) (h3 : ¬ k < 0) (h4 : sp.toNatClampNeg + k.toNatClampNeg ≤ n0) (h5 : dp.toNatClampNeg + k.toNatClampNeg ≤ n1)
    (hframes : 1 ≤ R.frames) (hlocals : (rest.map fun v => v.category).sum + (nativeFrameWords "java/lang/System" "arraycopy" 5 + 11) ≤ R.locals) (hdg : decode cc pc = .ok (.invokestatic index, 3))
    (kk : ∀ (H1 : Heap) (locs1 : List Loc), va_P D cl (ws.set q1 (a, .inl (c1, n1, .inl (va_cpy f g sp.toNatClampNeg dp.toNatClampNeg k.toNatClampNeg)))) H1 → va_D A (ws.set q1 (a, .inl (c1, n1, .inl (va_cpy f g sp.toNatClampNeg dp.toNatClampNeg k.toNatClampNeg)))) → va_S A s.heap H1 locs1 → W p l e R s m args below meth c H1 locs1 cells slots Q (F0 m (pc + 3) ls rest)) : W p l e R s m args below meth c H locs cells slots Q (F0 m pc ls (.int k :: .int dp :: .ref a :: .int sp :: .ref b0 :: rest)) := by
  have pos : ∀ z : Int32, ¬ z < 0 → z.toInt = (z.toNatClampNeg : Int) := by
    intro z hz
    rw [i32_lt, i32_0] at hz
    show z.toInt = ((z.toInt.toNat : Nat) : Int)
    omega
  intro T hT X
  obtain ⟨src, x1, x2, x3, x4, -, x5, x6⟩ := hX
  have hsrc : H[b0]? = some src := by rw [hS.2.1 b0 (Array.getElem?_eq_some_iff.mp x1).1 x6]; exact x1
  have hdst : H[a]? = some (vp_cell c1 (n1, .inl g)) := hP q1 _ ha1
  obtain ⟨y1, k0, hk0, cm0, hkk0⟩ := x2
  obtain ⟨-, k1, hk1, cm1, hkk1⟩ := (hK.2 t1 _ ht1).1 n1 (fun j => .int (g j))
  obtain ⟨vm', X', step⟩ := X.arraycopy hexec hown hlink hnat hstat hini (src := b0) (dst := a) (cs := src) (cd := vp_cell c1 (n1, .inl g)) (srcPos := sp) (destPos := dp) (n := k) (by rw [hT]; exact hsrc) (by rw [hT]; exact hdst)
    y1 (fun _ h => by cases h) x3 (fun h => by cases h) hk0 hk1 hkk0 hkk1 (by simp [refKind]) h1 h2 h3
    (by rw [pos sp h1, pos k h3]; omega)
    (by rw [pos dp h2, pos k h3]; show ¬ _ > ((arrV c1 n1 (fun j => .int (g j))).slots.size : Int); rw [arrV_size]; omega)
    (fun vm₁ _ i hi => by
      have e : src.slots.getD (sp.toNatClampNeg + i) .null = .int (f (sp.toNatClampNeg + i)) := by
        rw [Array.getD_eq_getD_getElem?, x5 _ (by omega)]
        rfl
      rw [e]
      exact ⟨rfl, trivial⟩)
    (g := F0 m pc ls (.int k :: .int dp :: .ref a :: .int sp :: .ref b0 :: rest)) rfl (by rw [hml]) (rest := rest) rfl (by rw [hb]; exact hdg) hframes (by show 2 * 0 + _ + _ ≤ _; omega)
  have e1 : copied src (vp_cell c1 (n1, .inl g)) sp dp k = vp_cell c1 (n1, .inl (va_cpy f g sp.toNatClampNeg dp.toNatClampNeg k.toNatClampNeg)) := va_copiedX (fun z => .int z) src c1 f g x5 h4
  rw [e1] at X' step
  generalize va_cpy f g sp.toNatClampNeg dp.toNatClampNeg k.toNatClampNeg = w at X' step kk
  have hl : a < H.size := (Array.getElem?_eq_some_iff.mp hdst).1
  have hheap : ((T.setVm vm').setCell a (vp_cell c1 (n1, .inl w))).heap = H.setIfInBounds a (vp_cell c1 (n1, .inl w)) := by rw [← hT]; rfl
  have oq : ∀ q : Nat, q ≠ a → (H.setIfInBounds a (vp_cell c1 (n1, .inl w)))[q]? = H[q]? := fun q hq => by simp [Array.getElem?_setIfInBounds, Ne.symm hq]
  obtain ⟨t, a1, b1⟩ := kk _ _ (hP.set hD ha1 (show (H.setIfInBounds a _)[a]? = some _ by simp [Array.getElem?_setIfInBounds, hl]) oq) (hD.set ha1) ⟨by simp; exact hS.1, fun q g1 g2 => by
      rw [oq q (fun e => g2 (by rw [e]; exact hD.2 q1 _ ha1))]
      exact hS.2.1 q g1 g2, fun q hq => by
      rcases List.mem_append.mp hq with h | h
      · exact hS.2.2 q h
      · obtain ⟨z, -, hz⟩ := List.mem_map.mp h
        rw [← hz]
        exact hD.2 q1 _ ha1⟩ _ hheap X'
  exact ⟨t, step t a1, b1⟩
end FCALLS
