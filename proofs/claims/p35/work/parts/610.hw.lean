/-! p35: the contract of a method of the law: what it answers, the world behind it, at most C new objects of S slots -/
def HW (F C S Lo : Nat) (l : Launch) (D : va_G) (cy : Nat → ClassId) (t : FxA) (y : MethodName) (ws : List Cond) (w w' : va_W) (As : List Value) (v : Int32) : Prop := ∀ sz : Nat,
  Met l y ws ({ frames := F, cells := C, slots := S, locals := Lo } : Room) (va_Pc As (fun U => U.heap.size = sz ∧ va_P D vwCl w U.heap ∧ va_D (fun _ => True) w ∧ GK D cy U ∧ FX t (va_A w sz) U U.heap)) (va_Qi (fun r (_ : Unit) => r = v) (fun _ t => va_P D vwCl w' t.heap) (va_A w sz)) C S (va_A w sz)
section HWB
variable {F C S Lo : Nat} {l : Launch} {D : va_G} {cy : Nat → ClassId} {t : FxA} {y : MethodName} {ws ws' : List Cond} {wc w' W W' r : va_W} {As : List Value} {v : Int32} {cc : ByteArray} {maxL : Nat} {ret : Option FieldType} {hh : List (Nat × Nat × Nat × Nat)}
theorem HW.ctx (hc : HW F C S Lo l D cy t y ws wc w' As v) (h1 : W.Perm (wc ++ r)) (h2 : W'.Perm (w' ++ r)) : HW F C S Lo l D cy t y ws W W' As v := by
  intro sz
  refine MetFree.mono (hc sz) (fun a s hp => ⟨hp.1, hp.2.1, ctx_P h1 hp.2.2.1, ctx_D h1 hp.2.2.2.1, hp.2.2.2.2.1, hp.2.2.2.2.2.kept (fun _ _ _ => rfl) (ctx_A h1)⟩) (fun _ _ _ _ _ h => h) (fun a s o u hp hq => ?_)
  obtain ⟨⟨⟨x, z, e1, e2, e3⟩, e4⟩, L, e5, e6⟩ := hq
  obtain ⟨k1, k2⟩ := ctx_post h1 h2 hp.2.1 hp.2.2.1 hp.2.2.2.1 e4 e3
  exact ⟨⟨⟨x, z, e1, e2, k1⟩, k2⟩, L, e5, fun q hq => ctx_A h1 _ (e6 q hq)⟩
theorem HW.bodyW (hy : plainName y.cls = true) (hw : ws = Cond.codeWith y cc maxL ret hh :: ws') (hlen : (lg_sl As).length ≤ maxL)
    (k : ∀ p e s m below meth c, p.tables.exec = Jvm.exec → c.code = cc → c.maxLocals = maxL → c.exceptionTable.toList = tableOf hh → meth.sig.returnType = ret → (∀ z ∈ ws, z.before As.toArray s = true) → s.vm.findClass y.cls = some m.cls → meth.locks = false → va_P D vwCl W s.heap → GK D cy s → ∀ ls : Array Slot, lv_has ls maxL (lv_args 0 As) →
      ∀ A : Nat → Prop, va_D A W → (∀ q, s.heap.size ≤ q → A q) → va_S A s.heap s.heap [] → FX t A s s.heap →
      @Wx p l e ({ frames := F, cells := C, slots := S, locals := Lo } : Room) s m As.toArray below meth c s.heap [] 0 0 (MQ below (va_Qi (fun r (_ : Unit) => r = v) (fun _ t => va_P D vwCl W' t.heap) A) As.toArray s C S A) (F0 m 0 ls [])) : HW F C S Lo l D cy t y ws W W' As v := by
  intro sz
  refine va_MetW (cc := cc) (maxL := maxL) (ret := ret) (hh := hh) hy hw ?_
  intro p e s m args below meth c s₁ B hml hv
  obtain ⟨rfl, hsz, hP, hD, hG, hF⟩ := hv
  subst hsz
  have hl := lv_entry As (n := maxL) hlen
  have hts := atoms_spec (ws := ws) B.pre
  rw [lg_entry_eq]
  exact k p e s m below meth c B.exec B.bytes hml (vx_table (x := y) B (hts _ (by rw [hw]; exact List.mem_cons_self))) B.returns hts (findClass_of_methodNamed B.named) B.notSynchronized hP hG _ hl _ (hD.self (sz := s.heap.size)) (fun q h => Or.inr h) va_S.rf hF
theorem HW.body (hy : plainName y.cls = true) (hw : ws = Cond.code y cc maxL ret :: ws') (hlen : (lg_sl As).length ≤ maxL)
    (k : ∀ p e s m below meth c, p.tables.exec = Jvm.exec → c.code = cc → c.maxLocals = maxL → meth.sig.returnType = ret → (∀ z ∈ ws, z.before As.toArray s = true) → s.vm.findClass y.cls = some m.cls → meth.locks = false → va_P D vwCl W s.heap → GK D cy s → ∀ ls : Array Slot, lv_has ls maxL (lv_args 0 As) →
      ∀ A : Nat → Prop, va_D A W → (∀ q, s.heap.size ≤ q → A q) → va_S A s.heap s.heap [] → FX t A s s.heap →
      @Wx p l e ({ frames := F, cells := C, slots := S, locals := Lo } : Room) s m As.toArray below meth c s.heap [] 0 0 (MQ below (va_Qi (fun r (_ : Unit) => r = v) (fun _ t => va_P D vwCl W' t.heap) A) As.toArray s C S A) (F0 m 0 ls [])) : HW F C S Lo l D cy t y ws W W' As v := by
  intro sz
  refine Met.ofW (cc := cc) (maxL := maxL) (ret := ret) hy hw ?_
  intro p e s m args below meth c s₁ B hml hv
  obtain ⟨rfl, hsz, hP, hD, hG, hF⟩ := hv
  subst hsz
  have hl := lv_entry As (n := maxL) hlen
  have hts := atoms_spec (ws := ws) B.pre
  rw [lg_entry_eq]
  exact k p e s m below meth c B.exec B.bytes hml B.returns hts (findClass_of_methodNamed B.named) B.notSynchronized hP hG _ hl _ (hD.self (sz := s.heap.size)) (fun q h => Or.inr h) va_S.rf hF
end HWB
section HWR
variable {p : Program} {l : Launch} {e : Env} {R : Room} {s : State} {m : MethodId} {args : Array Value} {below : List Frame} {meth : Method} {c : Code} {H : Heap} {locs : List Loc} {cells slots : Nat} {Q : State → Prop}
variable {pc : Nat} {ls : Array Slot} {rest : List Value} {D : va_G} {cy : Nat → ClassId} {cc : ByteArray} {t : FxA} {W1 W2 : va_W} {v x : Int32} {A A0 : Nat → Prop} {nL : Nat}
variable {y : MethodName} {bytes : ByteArray} {maxL n index : Nat} {ret : Option FieldType} {wy ws' : List Cond} {Ts : List Cond} {own : String} {As : List Value} {st0 : List Value} {hh : List (Nat × Nat × Nat × Nat)} {F C S Lo C9 S9 : Nat}
theorem hw_iret (hx : p.tables.exec = Jvm.exec) (hb : c.code = cc) (hr : meth.sig.returnType = some .int) (hlocks : meth.locks = false) (hP : va_P D vwCl W1 H) (hS : va_S A s.heap H locs) (hcl : cells ≤ C9) (hsl : slots ≤ S9) (hdg : decode cc pc = .ok (.ireturn, 1)) (hv : x = v) (hw : W1 = W2) :
    Wx p l e R s m args below meth c H locs cells slots (MQ below (va_Qi (fun r (_ : Unit) => r = v) (fun _ t => va_P D vwCl W2 t.heap) A) args s C9 S9 A) (F0 m pc ls [.int x]) := by
  subst hw
  refine W.widen hcl hsl ?_
  exact W.iret hx hb hr (fun u hu _ => ⟨⟨x, (), rfl, hv, by show va_P D vwCl W1 u.heap; rw [hu]; exact hP⟩, hS.F hu⟩) hS.2.2 hdg hlocks
theorem hw_zret (hx : p.tables.exec = Jvm.exec) (hb : c.code = cc) (hr : meth.sig.returnType = some .boolean) (hlocks : meth.locks = false) (hn : narrow .boolean (.int x) = .int x) (hP : va_P D vwCl W1 H) (hS : va_S A s.heap H locs) (hcl : cells ≤ C9) (hsl : slots ≤ S9) (hdg : decode cc pc = .ok (.ireturn, 1)) (hv : x = v) (hw : W1 = W2) :
    Wx p l e R s m args below meth c H locs cells slots (MQ below (va_Qi (fun r (_ : Unit) => r = v) (fun _ t => va_P D vwCl W2 t.heap) A) args s C9 S9 A) (F0 m pc ls [.int x]) := by
  subst hw
  refine W.widen hcl hsl ?_
  exact W.zret hx hb hr hn (fun u hu _ => ⟨⟨x, (), rfl, hv, by show va_P D vwCl W1 u.heap; rw [hu]; exact hP⟩, hS.F hu⟩) hS.2.2 hdg hlocks
theorem hw_catch {i : Nat} {ce : Cell} {q9 : Addr} (hown : s.vm.findClass own = some m.cls) (hF : FX t A s s.heap) (pre : List ExceptionTableEntry) (x9 : ExceptionTableEntry) (suf : List ExceptionTableEntry) (hsplit : c.exceptionTable.toList = pre ++ x9 :: suf)
    (hpass : ∀ z ∈ pre, z.catchType ≠ 0 ∧ ∃ j : Nat, (Cond.classLink own z.catchType (exN j)).before args s = true ∧ exN i ≠ exN j) (hx9 : covers x9 pc = true) (h0 : x9.catchType ≠ 0) (hlink : (Cond.classLink own x9.catchType (exN i)).before args s = true)
    (hcell : H[q9]? = some ce) (hv : ce.vm = .none) (hcl : s.vm.findClass (exN i) = some ce.cls)
    (kk : Wx p l e R s m args below meth c H locs cells slots Q (F0 m x9.handlerPc ls [.ref q9])) : vx_W p l e R s m args below meth c H locs cells slots Q (F0 m pc ls rest) q9 := by
  have hE := hF.2.2.2.2.2.2
  exact vx_catch hown pre x9 suf hsplit (fun z hz => by
    obtain ⟨a1, j, a2, a3⟩ := hpass z hz
    exact Or.inr ⟨a1, exN j, a2, hE.2.2 i j a3⟩) hx9 h0 hlink (va_Nw.use rfl (hE.2.1 i)) hcell hv hcl kk
theorem hw_go {a : Array Value} {H0 : Heap} (hr : va_Run p l e R s m args below meth c H locs cells slots C S (F0 m pc ls st0) rest (va_Qi (fun r (_ : Unit) => r = v) (fun _ t => va_P D vwCl W2 t.heap) (va_A W1 H.size) a) (va_A W1 H.size))
    (hD : va_D A0 W1) (hS : va_S A0 H0 H locs) (hA : ∀ q, H0.size ≤ q → A0 q) (ha : W2.map Prod.fst = W1.map Prod.fst)
    (kk : ∀ (H1 : Heap) (locs1 : List Loc), va_P D vwCl W2 H1 → va_D A0 W2 → va_S A0 H0 H1 locs1 → Wx p l e R s m args below meth c H1 locs1 (cells + C) (slots + S) Q (F0 m (pc + 3) ls (.int v :: rest))) : Wx p l e R s m args below meth c H locs cells slots Q (F0 m pc ls st0) := by
  have hF := w_free hD hS hA
  refine va_calli hr hS (fun q _ h => hF q h) hF (fun r u t H1 locs1 ht hvm hw hB hz hk hS1 => ?_)
  subst hw
  have hB : va_P D vwCl W2 t.heap := hB
  rw [ht] at hB
  exact kk H1 locs1 hB (w_adr ha hD) hS1
/-- a call of a method with a table of its own -/
theorem hwSW (hc : HW F C S Lo l D cy t y wy W1 W2 As v) (S0 : CallFix p m c cc nL s args Ts own) (hT : GoodIn Ts (va_wsS own index y wy)) (hw : wy = Cond.codeWith y bytes maxL ret hh :: ws') (hd : y.cls ≠ "java/lang/invoke/MethodHandle" ∧ y.cls ≠ "java/lang/invoke/VarHandle" ∧ (parseMethodDescriptor y.desc).map (fun d => d.parameters.length) = some n) (hrm : F + 1 ≤ R.frames ∧ 8 + (maxL + 11) + Lo ≤ R.locals) (hG : GK D cy s) (hF : FX t A0 s s.heap) (hP : va_P D vwCl W1 H) (hD : va_D A0 W1) (hS : va_S A0 s.heap H locs) (hA : ∀ q, s.heap.size ≤ q → A0 q) (ha : W2.map Prod.fst = W1.map Prod.fst) (hn : As.length = n) (hsize : ls.size = nL) (hst : st0 = As.reverse ++ rest) (hW : (rest.map fun v => v.category).sum ≤ 8) (hdg : decode cc pc = .ok (.invokestatic index, 3)) (hf : cells + C ≤ R.cells ∧ slots + S ≤ R.slots)
    (kk : ∀ (H1 : Heap) (locs1 : List Loc), va_P D vwCl W2 H1 → va_D A0 W2 → va_S A0 s.heap H1 locs1 → Wx p l e R s m args below meth c H1 locs1 (cells + C) (slots + S) Q (F0 m (pc + 3) ls (.int v :: rest))) : Wx p l e R s m args below meth c H locs cells slots Q (F0 m pc ls st0) :=
  hw_go (vx_runSW (As := As) (rest := rest) S0 (hc H.size) (vx_cwSW n S0.2.2.2.2 hT hw rfl rfl hd hrm) (pre_muf hG hF hS hP hD (w_free hD hS hA)) rfl hn hsize hst (lv_room hW) hdg hf) hD hS hA ha kk
/-- a call of a method without one -/
theorem hwS (hc : HW F C S Lo l D cy t y wy W1 W2 As v) (S0 : CallFix p m c cc nL s args Ts own) (hT : GoodIn Ts (va_wsS own index y wy)) (hw : wy = Cond.code y bytes maxL ret :: ws') (hd : y.cls ≠ "java/lang/invoke/MethodHandle" ∧ y.cls ≠ "java/lang/invoke/VarHandle" ∧ (parseMethodDescriptor y.desc).map (fun d => d.parameters.length) = some n) (hrm : F + 1 ≤ R.frames ∧ 8 + (maxL + 11) + Lo ≤ R.locals) (hG : GK D cy s) (hF : FX t A0 s s.heap) (hP : va_P D vwCl W1 H) (hD : va_D A0 W1) (hS : va_S A0 s.heap H locs) (hA : ∀ q, s.heap.size ≤ q → A0 q) (ha : W2.map Prod.fst = W1.map Prod.fst) (hn : As.length = n) (hsize : ls.size = nL) (hst : st0 = As.reverse ++ rest) (hW : (rest.map fun v => v.category).sum ≤ 8) (hdg : decode cc pc = .ok (.invokestatic index, 3)) (hf : cells + C ≤ R.cells ∧ slots + S ≤ R.slots)
    (kk : ∀ (H1 : Heap) (locs1 : List Loc), va_P D vwCl W2 H1 → va_D A0 W2 → va_S A0 s.heap H1 locs1 → Wx p l e R s m args below meth c H1 locs1 (cells + C) (slots + S) Q (F0 m (pc + 3) ls (.int v :: rest))) : Wx p l e R s m args below meth c H locs cells slots Q (F0 m pc ls st0) :=
  hw_go (va_runS (As := As) (rest := rest) S0 (hc H.size) (va_cwS n S0.2.2.2.2 hT hw rfl rfl hd hrm) (pre_muf hG hF hS hP hD (w_free hD hS hA)) rfl hn hsize hst (lv_room hW) hdg hf) hD hS hA ha kk
end HWR
/-- what the law is told by -/
def kV (c : Nat × Int32 × SpT) : Int32 := if c.1 = 0 then c.2.1 else if c.1 = 1 then -9999001 else if c.1 = 2 then -9999002 else -9999003
/-- what the contracts ask of a pool -/
def OKz (z : SpT) : Prop := ∃ (T : Int) (mo : MoT), 100000 ≤ T ∧ T ≤ 1000000 ∧ PR T z mo
theorem OKz.st {z : SpT} (h : OKz z) : stOK (pN z) := by obtain ⟨T, mo, -, -, H⟩ := h; exact H.st
theorem OKz.hi {z : SpT} (h : OKz z) : hiOK (pH z) := by obtain ⟨T, mo, -, -, H⟩ := h; exact H.hi
theorem OKz.tl {z : SpT} (h : OKz z) : iv 0 120 (tL (pT z)) := by obtain ⟨T, mo, -, -, H⟩ := h; exact H.tl
section KD
variable {T : Int} {c : Nat × Int32 × SpT} {m : Int32 × MoT}
theorem cd_ea (h : AG T c m ea) : c.1 = 0 ∨ c.1 = 1 ∨ c.1 = 2 ∨ c.1 = 3 := by
  rcases h.2 with h | ⟨e, he, h1, -⟩
  · exact Or.inl h.1
  · simp only [ea, List.mem_cons, List.not_mem_nil, or_false] at he
    rcases he with rfl | rfl | rfl
    · exact Or.inr (Or.inl h1)
    · exact Or.inr (Or.inr (Or.inl h1))
    · exact Or.inr (Or.inr (Or.inr h1))
theorem cd_eb (h : AG T c m eb) : c.1 = 0 ∨ c.1 = 1 ∨ c.1 = 3 := by
  rcases h.2 with h | ⟨e, he, h1, -⟩
  · exact Or.inl h.1
  · simp only [eb, List.mem_cons, List.not_mem_nil, or_false] at he
    rcases he with rfl | rfl
    · exact Or.inr (Or.inl h1)
    · exact Or.inr (Or.inr h1)
theorem cd_ec (h : AG T c m ec) : c.1 = 0 ∨ c.1 = 2 := by
  rcases h.2 with h | ⟨e, he, h1, -⟩
  · exact Or.inl h.1
  · simp only [ec, List.mem_cons, List.not_mem_nil, or_false] at he
    subst he
    exact Or.inr h1
theorem cd_ed (h : AG T c m ed) : c.1 = 0 ∨ c.1 = 1 ∨ c.1 = 2 := by
  rcases h.2 with h | ⟨e, he, h1, -⟩
  · exact Or.inl h.1
  · simp only [ed, List.mem_cons, List.not_mem_nil, or_false] at he
    rcases he with rfl | rfl
    · exact Or.inr (Or.inl h1)
    · exact Or.inr (Or.inr h1)
theorem cd_ee (h : AG T c m ee) : c.1 = 0 ∨ c.1 = 1 := by
  rcases h.2 with h | ⟨e, he, h1, -⟩
  · exact Or.inl h.1
  · simp only [ee, List.mem_cons, List.not_mem_nil, or_false] at he
    subst he
    exact Or.inr h1
theorem cd_ef (h : AG T c m ef) : c.1 = 0 ∨ c.1 = 3 := by
  rcases h.2 with h | ⟨e, he, h1, -⟩
  · exact Or.inl h.1
  · simp only [ef, List.mem_cons, List.not_mem_nil, or_false] at he
    subst he
    exact Or.inr h1
theorem cd_eg (h : AG T c m eg) : c.1 = 0 ∨ c.1 = 2 ∨ c.1 = 3 := by
  rcases h.2 with h | ⟨e, he, h1, -⟩
  · exact Or.inl h.1
  · simp only [eg, List.mem_cons, List.not_mem_nil, or_false] at he
    rcases he with rfl | rfl
    · exact Or.inr (Or.inl h1)
    · exact Or.inr (Or.inr h1)
end KD
theorem kd_append {z : SpT} (hz : OKz z) (x1 : Int32) : (m_X8_append z x1).1 = 0 ∨ (m_X8_append z x1).1 = 2 ∨ (m_X8_append z x1).1 = 3 := by
  obtain ⟨T, mo, h0, h1, H⟩ := hz
  exact cd_eg (ag_append H)
theorem kd_load {z : SpT} (hz : OKz z) : (m_X8_load z).1 = 0 ∨ (m_X8_load z).1 = 3 := by
  obtain ⟨T, mo, h0, h1, H⟩ := hz
  exact cd_ef (ag_load H h0)
theorem kd_about {z : SpT} (hz : OKz z) (x1 : Int32) : (m_X8_about z x1).1 = 0 ∨ (m_X8_about z x1).1 = 2 := by
  obtain ⟨T, mo, h0, h1, H⟩ := hz
  exact cd_ec (ag_about H)
theorem kd_unit {z : SpT} (hz : OKz z) (x1 : Int32) (x2 : Int32) : (m_X8_unit z x1 x2).1 = 0 ∨ (m_X8_unit z x1 x2).1 = 1 ∨ (m_X8_unit z x1 x2).1 = 2 := by
  obtain ⟨T, mo, h0, h1, H⟩ := hz
  exact cd_ed (ag_unit H)
theorem kd_holder {z : SpT} (hz : OKz z) (x1 : Int32) (x2 : Int32) : (m_X8_holder z x1 x2).1 = 0 ∨ (m_X8_holder z x1 x2).1 = 1 ∨ (m_X8_holder z x1 x2).1 = 2 := by
  obtain ⟨T, mo, h0, h1, H⟩ := hz
  exact cd_ed (ag_holder H)
theorem kd_owed {z : SpT} (hz : OKz z) (x1 : Int32) (x2 : Int32) (x3 : Int32) (x4 : Int32) : (m_X8_owed z x1 x2 x3 x4).1 = 0 ∨ (m_X8_owed z x1 x2 x3 x4).1 = 1 := by
  obtain ⟨T, mo, h0, h1, H⟩ := hz
  exact cd_ee (ag_owed H)
theorem kd_core {z : SpT} (hz : OKz z) (x1 : Int32) (x2 : Int32) (x3 : Int32) : (m_X8_core z x1 x2 x3).1 = 0 ∨ (m_X8_core z x1 x2 x3).1 = 1 ∨ (m_X8_core z x1 x2 x3).1 = 2 := by
  obtain ⟨T, mo, h0, h1, H⟩ := hz
  exact cd_ed (ag_core H)
theorem kd_setting {z : SpT} (hz : OKz z) (x1 : Int32) : (m_X8_setting z x1).1 = 0 ∨ (m_X8_setting z x1).1 = 2 := by
  obtain ⟨T, mo, h0, h1, H⟩ := hz
  exact cd_ec (ag_setting H)
theorem kd_come {z : SpT} (hz : OKz z) (x1 : Int32) (x2 : Int32) (x3 : Int32) : (m_X8_come z x1 x2 x3).1 = 0 ∨ (m_X8_come z x1 x2 x3).1 = 1 ∨ (m_X8_come z x1 x2 x3).1 = 2 ∨ (m_X8_come z x1 x2 x3).1 = 3 := by
  obtain ⟨T, mo, h0, h1, H⟩ := hz
  exact cd_ea (ag_come H (by omega))
theorem kd_lend {z : SpT} (hz : OKz z) (x1 : Int32) (x2 : Int32) (x3 : Int32) : (m_X8_lend z x1 x2 x3).1 = 0 ∨ (m_X8_lend z x1 x2 x3).1 = 1 ∨ (m_X8_lend z x1 x2 x3).1 = 2 ∨ (m_X8_lend z x1 x2 x3).1 = 3 := by
  obtain ⟨T, mo, h0, h1, H⟩ := hz
  exact cd_ea (ag_lend H (by omega))
theorem kd_bring {z : SpT} (hz : OKz z) (x1 : Int32) : (m_X8_bring z x1).1 = 0 ∨ (m_X8_bring z x1).1 = 1 ∨ (m_X8_bring z x1).1 = 3 := by
  obtain ⟨T, mo, h0, h1, H⟩ := hz
  exact cd_eb (ag_bring H (by omega))
theorem kd_exchange {z : SpT} (hz : OKz z) (x1 : Int32) (x2 : Int32) : (m_X8_exchange z x1 x2).1 = 0 ∨ (m_X8_exchange z x1 x2).1 = 1 ∨ (m_X8_exchange z x1 x2).1 = 3 := by
  obtain ⟨T, mo, h0, h1, H⟩ := hz
  exact cd_eb (ag_exchange H (by omega))
theorem kd_advance {z : SpT} (hz : OKz z) (x1 : Int32) (x2 : Int32) (x3 : Int32) : (m_X8_advance z x1 x2 x3).1 = 0 ∨ (m_X8_advance z x1 x2 x3).1 = 1 ∨ (m_X8_advance z x1 x2 x3).1 = 2 ∨ (m_X8_advance z x1 x2 x3).1 = 3 := by
  obtain ⟨T, mo, h0, h1, H⟩ := hz
  exact cd_ea (ag_advance H (by omega))
theorem kd_deliver {z : SpT} (hz : OKz z) (x1 : Int32) : (m_X8_deliver z x1).1 = 0 ∨ (m_X8_deliver z x1).1 = 1 ∨ (m_X8_deliver z x1).1 = 3 := by
  obtain ⟨T, mo, h0, h1, H⟩ := hz
  exact cd_eb (ag_deliver H (by omega))
theorem kd_take {z : SpT} (hz : OKz z) (x1 : Int32) (x2 : Int32) (x3 : Int32) : (m_X8_take z x1 x2 x3).1 = 0 ∨ (m_X8_take z x1 x2 x3).1 = 1 ∨ (m_X8_take z x1 x2 x3).1 = 3 := by
  obtain ⟨T, mo, h0, h1, H⟩ := hz
  exact cd_eb (ag_take H (by omega))
theorem kd_settle {z : SpT} (hz : OKz z) (x1 : Int32) (x2 : Int32) (x3 : Int32) (x4 : Int32) : (m_X8_settle z x1 x2 x3 x4).1 = 0 ∨ (m_X8_settle z x1 x2 x3 x4).1 = 1 ∨ (m_X8_settle z x1 x2 x3 x4).1 = 3 := by
  obtain ⟨T, mo, h0, h1, H⟩ := hz
  exact cd_eb (ag_settle H (by omega))
theorem kd_buy {z : SpT} (hz : OKz z) (x1 : Int32) (x2 : Int32) : (m_X8_buy z x1 x2).1 = 0 ∨ (m_X8_buy z x1 x2).1 = 1 ∨ (m_X8_buy z x1 x2).1 = 3 := by
  obtain ⟨T, mo, h0, h1, H⟩ := hz
  exact cd_eb (ag_buy H (by omega))
theorem kd_days {z : SpT} (hz : OKz z) (x1 : Int32) : (m_X8_days z x1).1 = 0 ∨ (m_X8_days z x1).1 = 2 := by
  obtain ⟨T, mo, h0, h1, H⟩ := hz
  exact cd_ec (ag_days H (by omega))
theorem kd_set {z : SpT} (hz : OKz z) (x1 : Int32) (x2 : Int32) : (m_X8_set z x1 x2).1 = 0 ∨ (m_X8_set z x1 x2).1 = 2 := by
  obtain ⟨T, mo, h0, h1, H⟩ := hz
  exact cd_ec (ag_set H)
theorem kd_undo {z : SpT} (hz : OKz z) : (m_X8_undo z).1 = 0 ∨ (m_X8_undo z).1 = 3 := by
  obtain ⟨T, mo, h0, h1, H⟩ := hz
  exact cd_ef (ag_undo H)
theorem kd_complete {z : SpT} (hz : OKz z) (x1 : Int32) (x2 : Int32) : (m_X8_complete z x1 x2).1 = 0 ∨ (m_X8_complete z x1 x2).1 = 1 := by
  obtain ⟨T, mo, h0, h1, H⟩ := hz
  exact cd_ee (ag_complete H)
theorem kd_takings {z : SpT} (hz : OKz z) (x1 : Int32) (x2 : Int32) : (m_X8_takings z x1 x2).1 = 0 ∨ (m_X8_takings z x1 x2).1 = 1 := by
  obtain ⟨T, mo, h0, h1, H⟩ := hz
  exact cd_ee (ag_takings H)
theorem kd_bill {z : SpT} (hz : OKz z) (x1 : Int32) (x2 : Int32) : (m_X8_bill z x1 x2).1 = 0 ∨ (m_X8_bill z x1 x2).1 = 1 ∨ (m_X8_bill z x1 x2).1 = 2 := by
  obtain ⟨T, mo, h0, h1, H⟩ := hz
  exact cd_ed (ag_bill H)
theorem kd_cheapest {z : SpT} (hz : OKz z) (x1 : Int32) (x2 : Int32) : (m_X8_cheapest z x1 x2).1 = 0 ∨ (m_X8_cheapest z x1 x2).1 = 1 := by
  obtain ⟨T, mo, h0, h1, H⟩ := hz
  exact cd_ee (ag_cheapest H)
theorem kd_runScript {z : SpT} (hz : OKz z) (x1 : Int32) (x2 : Int64) : (m_X8_runScript z x1 x2).1 = 0 ∨ (m_X8_runScript z x1 x2).1 = 2 := by
  obtain ⟨T, mo, h0, h1, H⟩ := hz
  exact cd_ec (ag_runScript H h1)
theorem kd_simulate {z : SpT} (hz : OKz z) (x1 : Int64) (x2 : Int32) : (m_X8_simulate z x1 x2).1 = 0 ∨ (m_X8_simulate z x1 x2).1 = 2 := by
  obtain ⟨T, mo, h0, h1, H⟩ := hz
  exact cd_ec (ag_simulate H h1)
theorem kd_save {z : SpT} (hz : OKz z) (x1 : Int32) : (m_X8_save z x1).1 = 0 ∨ (m_X8_save z x1).1 = 1 := by
  obtain ⟨T, mo, h0, h1, H⟩ := hz
  exact cd_ee (ag_save H)
theorem kd_restore {z : SpT} (hz : OKz z) (x1 : Int32) : (m_X8_restore z x1).1 = 0 ∨ (m_X8_restore z x1).1 = 1 ∨ (m_X8_restore z x1).1 = 3 := by
  obtain ⟨T, mo, h0, h1, H⟩ := hz
  exact cd_eb (ag_restore H)
theorem hq_X8_append : yX8_append.cls = RX8 ∧ yX8_append.cls ≠ "java/lang/invoke/MethodHandle" ∧ yX8_append.cls ≠ "java/lang/invoke/VarHandle" ∧ (parseMethodDescriptor yX8_append.desc).map (fun d => d.parameters.length) = some 1 := by decide +kernel
theorem hq_X8_load : yX8_load.cls = RX8 ∧ yX8_load.cls ≠ "java/lang/invoke/MethodHandle" ∧ yX8_load.cls ≠ "java/lang/invoke/VarHandle" ∧ (parseMethodDescriptor yX8_load.desc).map (fun d => d.parameters.length) = some 0 := by decide +kernel
theorem hq_X8_about : yX8_about.cls = RX8 ∧ yX8_about.cls ≠ "java/lang/invoke/MethodHandle" ∧ yX8_about.cls ≠ "java/lang/invoke/VarHandle" ∧ (parseMethodDescriptor yX8_about.desc).map (fun d => d.parameters.length) = some 1 := by decide +kernel
theorem hq_X8_unit : yX8_unit.cls = RX8 ∧ yX8_unit.cls ≠ "java/lang/invoke/MethodHandle" ∧ yX8_unit.cls ≠ "java/lang/invoke/VarHandle" ∧ (parseMethodDescriptor yX8_unit.desc).map (fun d => d.parameters.length) = some 2 := by decide +kernel
theorem hq_X8_holder : yX8_holder.cls = RX8 ∧ yX8_holder.cls ≠ "java/lang/invoke/MethodHandle" ∧ yX8_holder.cls ≠ "java/lang/invoke/VarHandle" ∧ (parseMethodDescriptor yX8_holder.desc).map (fun d => d.parameters.length) = some 2 := by decide +kernel
theorem hq_X8_owed : yX8_owed.cls = RX8 ∧ yX8_owed.cls ≠ "java/lang/invoke/MethodHandle" ∧ yX8_owed.cls ≠ "java/lang/invoke/VarHandle" ∧ (parseMethodDescriptor yX8_owed.desc).map (fun d => d.parameters.length) = some 4 := by decide +kernel
theorem hq_X8_core : yX8_core.cls = RX8 ∧ yX8_core.cls ≠ "java/lang/invoke/MethodHandle" ∧ yX8_core.cls ≠ "java/lang/invoke/VarHandle" ∧ (parseMethodDescriptor yX8_core.desc).map (fun d => d.parameters.length) = some 3 := by decide +kernel
theorem hq_X8_setting : yX8_setting.cls = RX8 ∧ yX8_setting.cls ≠ "java/lang/invoke/MethodHandle" ∧ yX8_setting.cls ≠ "java/lang/invoke/VarHandle" ∧ (parseMethodDescriptor yX8_setting.desc).map (fun d => d.parameters.length) = some 1 := by decide +kernel
theorem hq_X8_come : yX8_come.cls = RX8 ∧ yX8_come.cls ≠ "java/lang/invoke/MethodHandle" ∧ yX8_come.cls ≠ "java/lang/invoke/VarHandle" ∧ (parseMethodDescriptor yX8_come.desc).map (fun d => d.parameters.length) = some 3 := by decide +kernel
theorem hq_X8_lend : yX8_lend.cls = RX8 ∧ yX8_lend.cls ≠ "java/lang/invoke/MethodHandle" ∧ yX8_lend.cls ≠ "java/lang/invoke/VarHandle" ∧ (parseMethodDescriptor yX8_lend.desc).map (fun d => d.parameters.length) = some 3 := by decide +kernel
theorem hq_X8_bring : yX8_bring.cls = RX8 ∧ yX8_bring.cls ≠ "java/lang/invoke/MethodHandle" ∧ yX8_bring.cls ≠ "java/lang/invoke/VarHandle" ∧ (parseMethodDescriptor yX8_bring.desc).map (fun d => d.parameters.length) = some 1 := by decide +kernel
theorem hq_X8_exchange : yX8_exchange.cls = RX8 ∧ yX8_exchange.cls ≠ "java/lang/invoke/MethodHandle" ∧ yX8_exchange.cls ≠ "java/lang/invoke/VarHandle" ∧ (parseMethodDescriptor yX8_exchange.desc).map (fun d => d.parameters.length) = some 2 := by decide +kernel
theorem hq_X8_advance : yX8_advance.cls = RX8 ∧ yX8_advance.cls ≠ "java/lang/invoke/MethodHandle" ∧ yX8_advance.cls ≠ "java/lang/invoke/VarHandle" ∧ (parseMethodDescriptor yX8_advance.desc).map (fun d => d.parameters.length) = some 3 := by decide +kernel
theorem hq_X8_deliver : yX8_deliver.cls = RX8 ∧ yX8_deliver.cls ≠ "java/lang/invoke/MethodHandle" ∧ yX8_deliver.cls ≠ "java/lang/invoke/VarHandle" ∧ (parseMethodDescriptor yX8_deliver.desc).map (fun d => d.parameters.length) = some 1 := by decide +kernel
theorem hq_X8_take : yX8_take.cls = RX8 ∧ yX8_take.cls ≠ "java/lang/invoke/MethodHandle" ∧ yX8_take.cls ≠ "java/lang/invoke/VarHandle" ∧ (parseMethodDescriptor yX8_take.desc).map (fun d => d.parameters.length) = some 3 := by decide +kernel
theorem hq_X8_settle : yX8_settle.cls = RX8 ∧ yX8_settle.cls ≠ "java/lang/invoke/MethodHandle" ∧ yX8_settle.cls ≠ "java/lang/invoke/VarHandle" ∧ (parseMethodDescriptor yX8_settle.desc).map (fun d => d.parameters.length) = some 4 := by decide +kernel
theorem hq_X8_buy : yX8_buy.cls = RX8 ∧ yX8_buy.cls ≠ "java/lang/invoke/MethodHandle" ∧ yX8_buy.cls ≠ "java/lang/invoke/VarHandle" ∧ (parseMethodDescriptor yX8_buy.desc).map (fun d => d.parameters.length) = some 2 := by decide +kernel
theorem hq_X8_days : yX8_days.cls = RX8 ∧ yX8_days.cls ≠ "java/lang/invoke/MethodHandle" ∧ yX8_days.cls ≠ "java/lang/invoke/VarHandle" ∧ (parseMethodDescriptor yX8_days.desc).map (fun d => d.parameters.length) = some 1 := by decide +kernel
theorem hq_X8_set : yX8_set.cls = RX8 ∧ yX8_set.cls ≠ "java/lang/invoke/MethodHandle" ∧ yX8_set.cls ≠ "java/lang/invoke/VarHandle" ∧ (parseMethodDescriptor yX8_set.desc).map (fun d => d.parameters.length) = some 2 := by decide +kernel
theorem hq_X8_undo : yX8_undo.cls = RX8 ∧ yX8_undo.cls ≠ "java/lang/invoke/MethodHandle" ∧ yX8_undo.cls ≠ "java/lang/invoke/VarHandle" ∧ (parseMethodDescriptor yX8_undo.desc).map (fun d => d.parameters.length) = some 0 := by decide +kernel
theorem hq_X8_complete : yX8_complete.cls = RX8 ∧ yX8_complete.cls ≠ "java/lang/invoke/MethodHandle" ∧ yX8_complete.cls ≠ "java/lang/invoke/VarHandle" ∧ (parseMethodDescriptor yX8_complete.desc).map (fun d => d.parameters.length) = some 2 := by decide +kernel
theorem hq_X8_takings : yX8_takings.cls = RX8 ∧ yX8_takings.cls ≠ "java/lang/invoke/MethodHandle" ∧ yX8_takings.cls ≠ "java/lang/invoke/VarHandle" ∧ (parseMethodDescriptor yX8_takings.desc).map (fun d => d.parameters.length) = some 2 := by decide +kernel
theorem hq_X8_bill : yX8_bill.cls = RX8 ∧ yX8_bill.cls ≠ "java/lang/invoke/MethodHandle" ∧ yX8_bill.cls ≠ "java/lang/invoke/VarHandle" ∧ (parseMethodDescriptor yX8_bill.desc).map (fun d => d.parameters.length) = some 2 := by decide +kernel
theorem hq_X8_cheapest : yX8_cheapest.cls = RX8 ∧ yX8_cheapest.cls ≠ "java/lang/invoke/MethodHandle" ∧ yX8_cheapest.cls ≠ "java/lang/invoke/VarHandle" ∧ (parseMethodDescriptor yX8_cheapest.desc).map (fun d => d.parameters.length) = some 2 := by decide +kernel
theorem hq_X8_runScript : yX8_runScript.cls = RX8 ∧ yX8_runScript.cls ≠ "java/lang/invoke/MethodHandle" ∧ yX8_runScript.cls ≠ "java/lang/invoke/VarHandle" ∧ (parseMethodDescriptor yX8_runScript.desc).map (fun d => d.parameters.length) = some 2 := by decide +kernel
theorem hq_X8_simulate : yX8_simulate.cls = RX8 ∧ yX8_simulate.cls ≠ "java/lang/invoke/MethodHandle" ∧ yX8_simulate.cls ≠ "java/lang/invoke/VarHandle" ∧ (parseMethodDescriptor yX8_simulate.desc).map (fun d => d.parameters.length) = some 2 := by decide +kernel
theorem hq_X8_save : yX8_save.cls = RX8 ∧ yX8_save.cls ≠ "java/lang/invoke/MethodHandle" ∧ yX8_save.cls ≠ "java/lang/invoke/VarHandle" ∧ (parseMethodDescriptor yX8_save.desc).map (fun d => d.parameters.length) = some 1 := by decide +kernel
theorem hq_X8_restore : yX8_restore.cls = RX8 ∧ yX8_restore.cls ≠ "java/lang/invoke/MethodHandle" ∧ yX8_restore.cls ≠ "java/lang/invoke/VarHandle" ∧ (parseMethodDescriptor yX8_restore.desc).map (fun d => d.parameters.length) = some 1 := by decide +kernel
theorem hq_X8_clearText : yX8_clearText.cls = RX8 ∧ yX8_clearText.cls ≠ "java/lang/invoke/MethodHandle" ∧ yX8_clearText.cls ≠ "java/lang/invoke/VarHandle" ∧ (parseMethodDescriptor yX8_clearText.desc).map (fun d => d.parameters.length) = some 0 := by decide +kernel
theorem hq_X8_errorPosition : yX8_errorPosition.cls = RX8 ∧ yX8_errorPosition.cls ≠ "java/lang/invoke/MethodHandle" ∧ yX8_errorPosition.cls ≠ "java/lang/invoke/VarHandle" ∧ (parseMethodDescriptor yX8_errorPosition.desc).map (fun d => d.parameters.length) = some 0 := by decide +kernel
theorem hq_X8_firstDue : yX8_firstDue.cls = RX8 ∧ yX8_firstDue.cls ≠ "java/lang/invoke/MethodHandle" ∧ yX8_firstDue.cls ≠ "java/lang/invoke/VarHandle" ∧ (parseMethodDescriptor yX8_firstDue.desc).map (fun d => d.parameters.length) = some 0 := by decide +kernel
theorem hq_X8_inDebt : yX8_inDebt.cls = RX8 ∧ yX8_inDebt.cls ≠ "java/lang/invoke/MethodHandle" ∧ yX8_inDebt.cls ≠ "java/lang/invoke/VarHandle" ∧ (parseMethodDescriptor yX8_inDebt.desc).map (fun d => d.parameters.length) = some 0 := by decide +kernel
theorem hq_L_tryAppend : yL_tryAppend.cls ≠ "java/lang/invoke/MethodHandle" ∧ yL_tryAppend.cls ≠ "java/lang/invoke/VarHandle" ∧ (parseMethodDescriptor yL_tryAppend.desc).map (fun d => d.parameters.length) = some 2 := by decide +kernel
theorem hq_L_tryLoad : yL_tryLoad.cls ≠ "java/lang/invoke/MethodHandle" ∧ yL_tryLoad.cls ≠ "java/lang/invoke/VarHandle" ∧ (parseMethodDescriptor yL_tryLoad.desc).map (fun d => d.parameters.length) = some 1 := by decide +kernel
theorem hq_L_tryAbout : yL_tryAbout.cls ≠ "java/lang/invoke/MethodHandle" ∧ yL_tryAbout.cls ≠ "java/lang/invoke/VarHandle" ∧ (parseMethodDescriptor yL_tryAbout.desc).map (fun d => d.parameters.length) = some 2 := by decide +kernel
theorem hq_L_tryUnit : yL_tryUnit.cls ≠ "java/lang/invoke/MethodHandle" ∧ yL_tryUnit.cls ≠ "java/lang/invoke/VarHandle" ∧ (parseMethodDescriptor yL_tryUnit.desc).map (fun d => d.parameters.length) = some 3 := by decide +kernel
theorem hq_L_tryHolder : yL_tryHolder.cls ≠ "java/lang/invoke/MethodHandle" ∧ yL_tryHolder.cls ≠ "java/lang/invoke/VarHandle" ∧ (parseMethodDescriptor yL_tryHolder.desc).map (fun d => d.parameters.length) = some 3 := by decide +kernel
theorem hq_L_tryOwed : yL_tryOwed.cls ≠ "java/lang/invoke/MethodHandle" ∧ yL_tryOwed.cls ≠ "java/lang/invoke/VarHandle" ∧ (parseMethodDescriptor yL_tryOwed.desc).map (fun d => d.parameters.length) = some 5 := by decide +kernel
theorem hq_L_tryCore : yL_tryCore.cls ≠ "java/lang/invoke/MethodHandle" ∧ yL_tryCore.cls ≠ "java/lang/invoke/VarHandle" ∧ (parseMethodDescriptor yL_tryCore.desc).map (fun d => d.parameters.length) = some 4 := by decide +kernel
theorem hq_L_trySetting : yL_trySetting.cls ≠ "java/lang/invoke/MethodHandle" ∧ yL_trySetting.cls ≠ "java/lang/invoke/VarHandle" ∧ (parseMethodDescriptor yL_trySetting.desc).map (fun d => d.parameters.length) = some 2 := by decide +kernel
theorem hq_L_tryCome : yL_tryCome.cls ≠ "java/lang/invoke/MethodHandle" ∧ yL_tryCome.cls ≠ "java/lang/invoke/VarHandle" ∧ (parseMethodDescriptor yL_tryCome.desc).map (fun d => d.parameters.length) = some 4 := by decide +kernel
theorem hq_L_tryLend : yL_tryLend.cls ≠ "java/lang/invoke/MethodHandle" ∧ yL_tryLend.cls ≠ "java/lang/invoke/VarHandle" ∧ (parseMethodDescriptor yL_tryLend.desc).map (fun d => d.parameters.length) = some 4 := by decide +kernel
theorem hq_L_tryBring : yL_tryBring.cls ≠ "java/lang/invoke/MethodHandle" ∧ yL_tryBring.cls ≠ "java/lang/invoke/VarHandle" ∧ (parseMethodDescriptor yL_tryBring.desc).map (fun d => d.parameters.length) = some 2 := by decide +kernel
theorem hq_L_tryExchange : yL_tryExchange.cls ≠ "java/lang/invoke/MethodHandle" ∧ yL_tryExchange.cls ≠ "java/lang/invoke/VarHandle" ∧ (parseMethodDescriptor yL_tryExchange.desc).map (fun d => d.parameters.length) = some 3 := by decide +kernel
theorem hq_L_tryAdvance : yL_tryAdvance.cls ≠ "java/lang/invoke/MethodHandle" ∧ yL_tryAdvance.cls ≠ "java/lang/invoke/VarHandle" ∧ (parseMethodDescriptor yL_tryAdvance.desc).map (fun d => d.parameters.length) = some 4 := by decide +kernel
theorem hq_L_tryDeliver : yL_tryDeliver.cls ≠ "java/lang/invoke/MethodHandle" ∧ yL_tryDeliver.cls ≠ "java/lang/invoke/VarHandle" ∧ (parseMethodDescriptor yL_tryDeliver.desc).map (fun d => d.parameters.length) = some 2 := by decide +kernel
theorem hq_L_tryTake : yL_tryTake.cls ≠ "java/lang/invoke/MethodHandle" ∧ yL_tryTake.cls ≠ "java/lang/invoke/VarHandle" ∧ (parseMethodDescriptor yL_tryTake.desc).map (fun d => d.parameters.length) = some 4 := by decide +kernel
theorem hq_L_trySettle : yL_trySettle.cls ≠ "java/lang/invoke/MethodHandle" ∧ yL_trySettle.cls ≠ "java/lang/invoke/VarHandle" ∧ (parseMethodDescriptor yL_trySettle.desc).map (fun d => d.parameters.length) = some 5 := by decide +kernel
theorem hq_L_tryBuy : yL_tryBuy.cls ≠ "java/lang/invoke/MethodHandle" ∧ yL_tryBuy.cls ≠ "java/lang/invoke/VarHandle" ∧ (parseMethodDescriptor yL_tryBuy.desc).map (fun d => d.parameters.length) = some 3 := by decide +kernel
theorem hq_L_tryDays : yL_tryDays.cls ≠ "java/lang/invoke/MethodHandle" ∧ yL_tryDays.cls ≠ "java/lang/invoke/VarHandle" ∧ (parseMethodDescriptor yL_tryDays.desc).map (fun d => d.parameters.length) = some 2 := by decide +kernel
theorem hq_L_trySet : yL_trySet.cls ≠ "java/lang/invoke/MethodHandle" ∧ yL_trySet.cls ≠ "java/lang/invoke/VarHandle" ∧ (parseMethodDescriptor yL_trySet.desc).map (fun d => d.parameters.length) = some 3 := by decide +kernel
theorem hq_L_tryUndo : yL_tryUndo.cls ≠ "java/lang/invoke/MethodHandle" ∧ yL_tryUndo.cls ≠ "java/lang/invoke/VarHandle" ∧ (parseMethodDescriptor yL_tryUndo.desc).map (fun d => d.parameters.length) = some 1 := by decide +kernel
theorem hq_L_tryComplete : yL_tryComplete.cls ≠ "java/lang/invoke/MethodHandle" ∧ yL_tryComplete.cls ≠ "java/lang/invoke/VarHandle" ∧ (parseMethodDescriptor yL_tryComplete.desc).map (fun d => d.parameters.length) = some 3 := by decide +kernel
theorem hq_L_tryTakings : yL_tryTakings.cls ≠ "java/lang/invoke/MethodHandle" ∧ yL_tryTakings.cls ≠ "java/lang/invoke/VarHandle" ∧ (parseMethodDescriptor yL_tryTakings.desc).map (fun d => d.parameters.length) = some 3 := by decide +kernel
theorem hq_L_tryBill : yL_tryBill.cls ≠ "java/lang/invoke/MethodHandle" ∧ yL_tryBill.cls ≠ "java/lang/invoke/VarHandle" ∧ (parseMethodDescriptor yL_tryBill.desc).map (fun d => d.parameters.length) = some 3 := by decide +kernel
theorem hq_L_tryCheapest : yL_tryCheapest.cls ≠ "java/lang/invoke/MethodHandle" ∧ yL_tryCheapest.cls ≠ "java/lang/invoke/VarHandle" ∧ (parseMethodDescriptor yL_tryCheapest.desc).map (fun d => d.parameters.length) = some 3 := by decide +kernel
theorem hq_L_tryScript : yL_tryScript.cls ≠ "java/lang/invoke/MethodHandle" ∧ yL_tryScript.cls ≠ "java/lang/invoke/VarHandle" ∧ (parseMethodDescriptor yL_tryScript.desc).map (fun d => d.parameters.length) = some 3 := by decide +kernel
theorem hq_L_trySimulate : yL_trySimulate.cls ≠ "java/lang/invoke/MethodHandle" ∧ yL_trySimulate.cls ≠ "java/lang/invoke/VarHandle" ∧ (parseMethodDescriptor yL_trySimulate.desc).map (fun d => d.parameters.length) = some 3 := by decide +kernel
theorem hq_L_tryKeep : yL_tryKeep.cls ≠ "java/lang/invoke/MethodHandle" ∧ yL_tryKeep.cls ≠ "java/lang/invoke/VarHandle" ∧ (parseMethodDescriptor yL_tryKeep.desc).map (fun d => d.parameters.length) = some 2 := by decide +kernel
theorem hq_L_tryBack : yL_tryBack.cls ≠ "java/lang/invoke/MethodHandle" ∧ yL_tryBack.cls ≠ "java/lang/invoke/VarHandle" ∧ (parseMethodDescriptor yL_tryBack.desc).map (fun d => d.parameters.length) = some 2 := by decide +kernel
theorem hq_L_call : yL_call.cls ≠ "java/lang/invoke/MethodHandle" ∧ yL_call.cls ≠ "java/lang/invoke/VarHandle" ∧ (parseMethodDescriptor yL_call.desc).map (fun d => d.parameters.length) = some 5 := by decide +kernel
theorem hq_L_cell : yL_cell.cls ≠ "java/lang/invoke/MethodHandle" ∧ yL_cell.cls ≠ "java/lang/invoke/VarHandle" ∧ (parseMethodDescriptor yL_cell.desc).map (fun d => d.parameters.length) = some 2 := by decide +kernel
theorem hq_L_refuses : yL_refuses.cls ≠ "java/lang/invoke/MethodHandle" ∧ yL_refuses.cls ≠ "java/lang/invoke/VarHandle" ∧ (parseMethodDescriptor yL_refuses.desc).map (fun d => d.parameters.length) = some 2 := by decide +kernel
theorem hq_L_alike : yL_alike.cls ≠ "java/lang/invoke/MethodHandle" ∧ yL_alike.cls ≠ "java/lang/invoke/VarHandle" ∧ (parseMethodDescriptor yL_alike.desc).map (fun d => d.parameters.length) = some 3 := by decide +kernel
theorem hq_L_holds : yL_holds.cls ≠ "java/lang/invoke/MethodHandle" ∧ yL_holds.cls ≠ "java/lang/invoke/VarHandle" ∧ (parseMethodDescriptor yL_holds.desc).map (fun d => d.parameters.length) = some 2 := by decide +kernel
theorem hq_L_act : yL_act.cls ≠ "java/lang/invoke/MethodHandle" ∧ yL_act.cls ≠ "java/lang/invoke/VarHandle" ∧ (parseMethodDescriptor yL_act.desc).map (fun d => d.parameters.length) = some 3 := by decide +kernel
