/-! the law: what holds all through it -/
theorem wO_app {cy : Nat → ClassId} {oa : Nat} {f : Nat → Int64} {X Y : va_W} : (wO cy oa f (X ++ Y)).Perm (wO cy oa f X ++ Y) := List.Perm.refl _
theorem wO_app2 {cy : Nat → ClassId} {oa : Nat} {f : Nat → Int64} {X Y : va_W} : (wO cy oa f (X ++ Y)).Perm (Y ++ wO cy oa f X) := by
  show (wO cy oa f X ++ Y).Perm _
  exact List.perm_append_comm
theorem h_wL {cy : Nat → ClassId} {oa : Nat} {f f2 : Nat → Int64} {X Y X2 Y2 : va_W} (e1 : X2.map Prod.fst = X.map Prod.fst) (e2 : Y2.map Prod.fst = Y.map Prod.fst) : (wO cy oa f2 (X2 ++ Y2)).map Prod.fst = (wO cy oa f (X ++ Y)).map Prod.fst := by
  show oa :: (X2 ++ Y2).map Prod.fst = oa :: (X ++ Y).map Prod.fst
  rw [List.map_append, List.map_append, e1, e2]
theorem oV_get {f : Nat → Int64} {code : Nat} {v : Int32} (h : code = 0) : oV f code v (0 : Int32).toNatClampNeg = v.toInt64 := by
  rw [oV, if_pos h]
  exact if_pos rfl
theorem lg_same {x y : Int64} (h : x = y) : lg_cmp x y = 0 := by
  subst h
  unfold lg_cmp
  rw [if_neg (fun q => by rw [gt_iff_lt, Int64.lt_iff_toInt_lt] at q; omega), if_pos rfl]
theorem si_in {n k L : Nat} (h : n + k < L) (hL : L ≤ 2560) {c : Int32} (hc : c = nI k) : vp_in (nI n + c) L := by
  subst hc
  rw [nI_add]
  exact nI_in h (by omega)
theorem ag_k {T : Int} {c : Nat × Int32 × SpT} {m : Int32 × MoT} {es : List (Nat × Int32)} (h : AG T c m es) : (c.1 = 0 ∧ mR m.2 = 0) ∨ ∃ e ∈ es, c.1 = e.1 ∧ mR m.2 = e.2 := by
  rcases h.2 with ⟨h1, h2, -⟩ | h
  · exact Or.inl ⟨h1, h2⟩
  · exact Or.inr h
theorem ag_v {T : Int} {c : Nat × Int32 × SpT} {m : Int32 × MoT} {es : List (Nat × Int32)} (h : AG T c m es) (he : ∀ e ∈ es, ¬ e.2 = 0) (h0 : mR m.2 = 0) : c.1 = 0 ∧ c.2.1 = m.1 := by
  rcases h.2 with ⟨h1, h2, h3⟩ | ⟨e, h1, h2, h3⟩
  · exact ⟨h1, h3⟩
  · exact absurd (h3.symm.trans h0) (he e h1)
theorem nz_ea : ∀ e ∈ ea, ¬ e.2 = 0 := by decide +kernel
theorem nz_eb : ∀ e ∈ eb, ¬ e.2 = 0 := by decide +kernel
theorem nz_ec : ∀ e ∈ ec, ¬ e.2 = 0 := by decide +kernel
theorem nz_ed : ∀ e ∈ ed, ¬ e.2 = 0 := by decide +kernel
theorem nz_ee : ∀ e ∈ ee, ¬ e.2 = 0 := by decide +kernel
theorem nz_ef : ∀ e ∈ ef, ¬ e.2 = 0 := by decide +kernel
theorem nz_eg : ∀ e ∈ eg, ¬ e.2 = 0 := by decide +kernel
section RWV
variable {p : Program} {l : Launch} {e : Env} {R : Room} {s : State} {m : MethodId} {args : Array Value} {below : List Frame} {meth : Method} {c : Code} {H : Heap} {locs : List Loc} {cells slots : Nat} {Q : State → Prop}
variable {pc : Nat} {ls : Array Slot} {rest : List Value} {D : va_G} {cy : Nat → ClassId} {cc : ByteArray} {nL : Nat} {t : FxA}
variable {y : MethodName} {bytes : ByteArray} {maxL n index : Nat} {ret : Option FieldType} {wy ws' : List Cond} {rm : Room} {Ts : List Cond} {own : String} {b : Addr} {As : List Value} {st0 : List Value} {W1 : va_W} {v : Int32}
theorem rwV {q : vw_C} {ci : Nat} {fs : List Value} {C : String} (hc : RO l D cy y wy rm W1 (.ref b :: As) v) (S : CallFix p m c cc nL s args Ts own) (hT : GoodIn Ts (wsV own index C y wy)) (hw : wy = Cond.code y bytes maxL ret :: ws') (hd : y.cls = C ∧ y.cls ≠ "java/lang/invoke/MethodHandle" ∧ y.cls ≠ "java/lang/invoke/VarHandle" ∧ (parseMethodDescriptor y.desc).map (fun d => d.parameters.length) = some n) (hrm : rm.cells = 0 ∧ rm.slots = 0 ∧ rm.frames + 1 ≤ R.frames ∧ 8 + (maxL + 11) + rm.locals ≤ R.locals) (hG : GK D cy s) (hP : va_P D vwCl W1 H) (hcl : vwCl[ci]? = some q) (hq : q.1 = C) (he : (b, .inr (ci, fs)) ∈ W1) (hn : As.length = n) (hsize : ls.size = nL) (hst : st0 = As.reverse ++ .ref b :: rest) (hW : (rest.map fun v => v.category).sum ≤ 8) (hdg : decode cc pc = .ok (.invokevirtual index, 3)) (hf : cells ≤ R.cells ∧ slots ≤ R.slots) (kk : Wx p l e R s m args below meth c H locs cells slots Q (F0 m (pc + 3) ls (.int v :: rest))) : Wx p l e R s m args below meth c H locs cells slots Q (F0 m pc ls st0) :=
  ro_go (va_runV (As := As) (rest := rest) S hc (cwV n S.2.2.2.2 hT hw hrm.1 hrm.2.1 hd hrm.2.2) (pre_vm hG hP hcl hq he (pre_ro hG hP)) rfl hn hsize hst (lv_room hW) hdg hf) kk
end RWV
/-- the law's fixed things -/
def LC (p : Program) (l : Launch) (s : State) (m : MethodId) (meth : Method) (c : Code) (b L : Nat) (xs : Nat → Int32) (D : va_G) (cy : Nat → ClassId) (t : FxA) (A : Nat → Prop) : Prop :=
  p.tables.exec = Jvm.exec ∧ c.code = cL_law ∧ CallFix p m c cL_law 7 s ([.ref b] : List Value).toArray lw_tbl RL ∧ GK D cy s ∧ FX t A s s.heap ∧ va_X b L xs s s.heap ∧ b < s.heap.size ∧ ¬ A b ∧ (∀ q, s.heap.size ≤ q → A q) ∧ l.stackTraces = false ∧ s.vm.findClass RL = some m.cls
theorem kl_sub {ls : Array Slot} {n : Nat} {a b : Nat × Value} {lv : List (Nat × Value)} (h : lv_has ls n (a :: b :: lv)) : lv_has ls n lv := ⟨h.1, h.2.1, fun q hq => h.2.2 q (List.mem_cons_of_mem _ (List.mem_cons_of_mem _ hq))⟩
theorem i_k1 : (1 : Int32) = nI 1 := by decide +kernel
theorem i_k2 : (2 : Int32) = nI 2 := by decide +kernel
theorem i_k3 : (3 : Int32) = nI 3 := by decide +kernel
theorem i_k4 : (4 : Int32) = nI 4 := by decide +kernel
theorem hq_L_append : yL_append.cls ≠ "java/lang/invoke/MethodHandle" ∧ yL_append.cls ≠ "java/lang/invoke/VarHandle" ∧ (parseMethodDescriptor yL_append.desc).map (fun d => d.parameters.length) = some 3 := by decide +kernel
theorem hq_X8_clearText : yX8_clearText.cls = RX8 ∧ yX8_clearText.cls ≠ "java/lang/invoke/MethodHandle" ∧ yX8_clearText.cls ≠ "java/lang/invoke/VarHandle" ∧ (parseMethodDescriptor yX8_clearText.desc).map (fun d => d.parameters.length) = some 0 := by decide +kernel
theorem hq_X8_errorPosition : yX8_errorPosition.cls = RX8 ∧ yX8_errorPosition.cls ≠ "java/lang/invoke/MethodHandle" ∧ yX8_errorPosition.cls ≠ "java/lang/invoke/VarHandle" ∧ (parseMethodDescriptor yX8_errorPosition.desc).map (fun d => d.parameters.length) = some 0 := by decide +kernel
theorem hq_L_load : yL_load.cls ≠ "java/lang/invoke/MethodHandle" ∧ yL_load.cls ≠ "java/lang/invoke/VarHandle" ∧ (parseMethodDescriptor yL_load.desc).map (fun d => d.parameters.length) = some 2 := by decide +kernel
theorem hq_L_about : yL_about.cls ≠ "java/lang/invoke/MethodHandle" ∧ yL_about.cls ≠ "java/lang/invoke/VarHandle" ∧ (parseMethodDescriptor yL_about.desc).map (fun d => d.parameters.length) = some 3 := by decide +kernel
theorem hq_L_unit : yL_unit.cls ≠ "java/lang/invoke/MethodHandle" ∧ yL_unit.cls ≠ "java/lang/invoke/VarHandle" ∧ (parseMethodDescriptor yL_unit.desc).map (fun d => d.parameters.length) = some 4 := by decide +kernel
theorem hq_L_holder : yL_holder.cls ≠ "java/lang/invoke/MethodHandle" ∧ yL_holder.cls ≠ "java/lang/invoke/VarHandle" ∧ (parseMethodDescriptor yL_holder.desc).map (fun d => d.parameters.length) = some 4 := by decide +kernel
theorem hq_L_owed : yL_owed.cls ≠ "java/lang/invoke/MethodHandle" ∧ yL_owed.cls ≠ "java/lang/invoke/VarHandle" ∧ (parseMethodDescriptor yL_owed.desc).map (fun d => d.parameters.length) = some 6 := by decide +kernel
theorem hq_L_core : yL_core.cls ≠ "java/lang/invoke/MethodHandle" ∧ yL_core.cls ≠ "java/lang/invoke/VarHandle" ∧ (parseMethodDescriptor yL_core.desc).map (fun d => d.parameters.length) = some 5 := by decide +kernel
theorem hq_L_setting : yL_setting.cls ≠ "java/lang/invoke/MethodHandle" ∧ yL_setting.cls ≠ "java/lang/invoke/VarHandle" ∧ (parseMethodDescriptor yL_setting.desc).map (fun d => d.parameters.length) = some 3 := by decide +kernel
theorem hq_L_come : yL_come.cls ≠ "java/lang/invoke/MethodHandle" ∧ yL_come.cls ≠ "java/lang/invoke/VarHandle" ∧ (parseMethodDescriptor yL_come.desc).map (fun d => d.parameters.length) = some 5 := by decide +kernel
theorem hq_L_lend : yL_lend.cls ≠ "java/lang/invoke/MethodHandle" ∧ yL_lend.cls ≠ "java/lang/invoke/VarHandle" ∧ (parseMethodDescriptor yL_lend.desc).map (fun d => d.parameters.length) = some 5 := by decide +kernel
theorem hq_L_bring : yL_bring.cls ≠ "java/lang/invoke/MethodHandle" ∧ yL_bring.cls ≠ "java/lang/invoke/VarHandle" ∧ (parseMethodDescriptor yL_bring.desc).map (fun d => d.parameters.length) = some 3 := by decide +kernel
theorem hq_L_exchange : yL_exchange.cls ≠ "java/lang/invoke/MethodHandle" ∧ yL_exchange.cls ≠ "java/lang/invoke/VarHandle" ∧ (parseMethodDescriptor yL_exchange.desc).map (fun d => d.parameters.length) = some 4 := by decide +kernel
theorem hq_L_advance : yL_advance.cls ≠ "java/lang/invoke/MethodHandle" ∧ yL_advance.cls ≠ "java/lang/invoke/VarHandle" ∧ (parseMethodDescriptor yL_advance.desc).map (fun d => d.parameters.length) = some 5 := by decide +kernel
theorem hq_L_deliver : yL_deliver.cls ≠ "java/lang/invoke/MethodHandle" ∧ yL_deliver.cls ≠ "java/lang/invoke/VarHandle" ∧ (parseMethodDescriptor yL_deliver.desc).map (fun d => d.parameters.length) = some 3 := by decide +kernel
theorem hq_L_take : yL_take.cls ≠ "java/lang/invoke/MethodHandle" ∧ yL_take.cls ≠ "java/lang/invoke/VarHandle" ∧ (parseMethodDescriptor yL_take.desc).map (fun d => d.parameters.length) = some 5 := by decide +kernel
theorem hq_L_settle : yL_settle.cls ≠ "java/lang/invoke/MethodHandle" ∧ yL_settle.cls ≠ "java/lang/invoke/VarHandle" ∧ (parseMethodDescriptor yL_settle.desc).map (fun d => d.parameters.length) = some 6 := by decide +kernel
theorem hq_L_buy : yL_buy.cls ≠ "java/lang/invoke/MethodHandle" ∧ yL_buy.cls ≠ "java/lang/invoke/VarHandle" ∧ (parseMethodDescriptor yL_buy.desc).map (fun d => d.parameters.length) = some 4 := by decide +kernel
theorem hq_L_days : yL_days.cls ≠ "java/lang/invoke/MethodHandle" ∧ yL_days.cls ≠ "java/lang/invoke/VarHandle" ∧ (parseMethodDescriptor yL_days.desc).map (fun d => d.parameters.length) = some 3 := by decide +kernel
theorem hq_L_set : yL_set.cls ≠ "java/lang/invoke/MethodHandle" ∧ yL_set.cls ≠ "java/lang/invoke/VarHandle" ∧ (parseMethodDescriptor yL_set.desc).map (fun d => d.parameters.length) = some 4 := by decide +kernel
theorem hq_L_undo : yL_undo.cls ≠ "java/lang/invoke/MethodHandle" ∧ yL_undo.cls ≠ "java/lang/invoke/VarHandle" ∧ (parseMethodDescriptor yL_undo.desc).map (fun d => d.parameters.length) = some 2 := by decide +kernel
theorem hq_L_complete : yL_complete.cls ≠ "java/lang/invoke/MethodHandle" ∧ yL_complete.cls ≠ "java/lang/invoke/VarHandle" ∧ (parseMethodDescriptor yL_complete.desc).map (fun d => d.parameters.length) = some 4 := by decide +kernel
theorem hq_L_takings : yL_takings.cls ≠ "java/lang/invoke/MethodHandle" ∧ yL_takings.cls ≠ "java/lang/invoke/VarHandle" ∧ (parseMethodDescriptor yL_takings.desc).map (fun d => d.parameters.length) = some 4 := by decide +kernel
theorem hq_L_bill : yL_bill.cls ≠ "java/lang/invoke/MethodHandle" ∧ yL_bill.cls ≠ "java/lang/invoke/VarHandle" ∧ (parseMethodDescriptor yL_bill.desc).map (fun d => d.parameters.length) = some 4 := by decide +kernel
theorem hq_L_cheapest : yL_cheapest.cls ≠ "java/lang/invoke/MethodHandle" ∧ yL_cheapest.cls ≠ "java/lang/invoke/VarHandle" ∧ (parseMethodDescriptor yL_cheapest.desc).map (fun d => d.parameters.length) = some 4 := by decide +kernel
theorem hq_L_runScript : yL_runScript.cls ≠ "java/lang/invoke/MethodHandle" ∧ yL_runScript.cls ≠ "java/lang/invoke/VarHandle" ∧ (parseMethodDescriptor yL_runScript.desc).map (fun d => d.parameters.length) = some 4 := by decide +kernel
theorem hq_L_simulate : yL_simulate.cls ≠ "java/lang/invoke/MethodHandle" ∧ yL_simulate.cls ≠ "java/lang/invoke/VarHandle" ∧ (parseMethodDescriptor yL_simulate.desc).map (fun d => d.parameters.length) = some 4 := by decide +kernel
theorem hq_L_save : yL_save.cls ≠ "java/lang/invoke/MethodHandle" ∧ yL_save.cls ≠ "java/lang/invoke/VarHandle" ∧ (parseMethodDescriptor yL_save.desc).map (fun d => d.parameters.length) = some 3 := by decide +kernel
theorem hq_L_restore : yL_restore.cls ≠ "java/lang/invoke/MethodHandle" ∧ yL_restore.cls ≠ "java/lang/invoke/VarHandle" ∧ (parseMethodDescriptor yL_restore.desc).map (fun d => d.parameters.length) = some 3 := by decide +kernel
theorem wO_app3 {cy : Nat → ClassId} {oa : Nat} {f : Nat → Int64} {X Y : va_W} : (wO cy oa f (X ++ Y)).Perm (X ++ ((oa, .inl (cy 3, 1, .inr (.inl f))) :: Y)) := List.perm_middle.symm
theorem kl_word : Cond.constantLong RL 208 (4294967295) ∈ lw_tbl := (goodIn_c [Cond.constantLong RL 208 (4294967295)] [(0, 7)] (by decide +kernel) _ List.mem_cons_self).1
