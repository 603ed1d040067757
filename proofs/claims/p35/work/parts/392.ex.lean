section EXR
variable {p : Program} {l : Launch} {e : Env} {R : Room} {s : State} {m : MethodId} {args : Array Value} {below : List Frame} {meth : Method} {c : Code} {H : Heap} {locs : List Loc} {cells slots : Nat}
variable {pc : Nat} {ls : Array Slot} {rest : List Value} {D : va_G} {cy : Nat → ClassId} {cc : ByteArray} {t : FxA} {W1 W2 : va_W} {v x : Int32} {A : Nat → Prop} {code mc ms : Nat}
/-- where a method that may throw ends: its answer -/
theorem ex_iret (hx : p.tables.exec = Jvm.exec) (hb : c.code = cc) (hr : meth.sig.returnType = some .int) (hlocks : meth.locks = false) (hP : va_P D vwCl W1 H) (hS : va_S A s.heap H locs) (hcl : cells ≤ mc) (hsl : slots ≤ ms) (hdg : decode cc pc = .ok (.ireturn, 1)) (h0 : code = 0) (hv : x = v) (hw : W1 = W2) :
    Wx p l e R s m args below meth c H locs cells slots (vx_MQ below (va_Qi (fun r (_ : Unit) => code = 0 ∧ r = v) (fun _ u => va_P D vwCl W2 u.heap) A) (vx_X (fun (_ : Unit) => True) (fun E _ u => 0 < code ∧ E = exN code ∧ va_P D vwCl W2 u.heap) A) args s mc ms A) (F0 m pc ls [.int x]) := by
  subst hw
  refine W.widen hcl hsl ?_
  refine vx_ret ?_
  exact W.iret hx hb hr (fun u hu _ => ⟨⟨x, (), rfl, ⟨h0, hv⟩, by show va_P D vwCl W1 u.heap; rw [hu]; exact hP⟩, hS.F hu⟩) hS.2.2 hdg hlocks
/-- .. a throw of its own -/
theorem ex_thr {i ik ic : Nat} (hx : p.tables.exec = Jvm.exec) (hb : c.code = cc) (hl0 : l.stackTraces = false) (hown : s.vm.findClass RX8 = some m.cls) (hk : (Cond.classLink RX8 ik (exN i)).before args s = true) (hini : (Cond.initialized (exN i)).before args s = true) (hfit : Bundle.fit (exN i) = true)
    (hgw : ∀ w ∈ (vx_at0 RX8 ic (exN i) ["java/lang/RuntimeException", "java/lang/Exception"]).filter goodWord, w.before args s = true)
    (hng : ∀ w ∈ (vx_at0 RX8 ic (exN i) ["java/lang/RuntimeException", "java/lang/Exception"]).filter (fun w => !goodWord w), w ∈ [Cond.declares (Bundle.init0 "java/lang/RuntimeException"), Cond.declares (Bundle.init0 "java/lang/Exception"), Cond.declares (Bundle.init0 Bundle.tN), Cond.castable (exN i) (exN i)])
    (hgood : ∀ w ∈ Cond.classLink RX8 ik (exN i) :: Cond.initialized (exN i) :: vx_at0 RX8 ic (exN i) ["java/lang/RuntimeException", "java/lang/Exception"], vx_ot w = true)
    (hF : FX t A s s.heap) (hS : va_S A s.heap H locs) (hP : va_P D vwCl W1 H) (hsize : ls.size = c.maxLocals)
    (d0 : decode cc pc = .ok (.new ik, 3)) (d3 : decode cc (pc + 3) = .ok (.dup, 1)) (d4 : decode cc (pc + 4) = .ok (.invokespecial ic, 3)) (d7 : decode cc (pc + 7) = .ok (.athrow, 1)) (hnx : ∀ x ∈ c.exceptionTable.toList, False)
    (hRf : 5 < R.frames) (hRl : (rest.map fun v => v.category).sum + 81 ≤ R.locals) (hRc : cells + 1 ≤ R.cells) (hRs : slots + 6 ≤ R.slots) (hlocks : meth.locks = false) (hcl : cells + 1 ≤ mc) (hsl : slots + 6 ≤ ms) (h0 : code = i) (hi : 0 < i) (hw : W1 = W2) :
    Wx p l e R s m args below meth c H locs cells slots (vx_MQ below (va_Qi (fun r (_ : Unit) => code = 0 ∧ r = v) (fun _ u => va_P D vwCl W2 u.heap) A) (vx_X (fun (_ : Unit) => True) (fun E _ u => 0 < code ∧ E = exN code ∧ va_P D vwCl W2 u.heap) A) args s mc ms A) (F0 m pc ls rest) := by
  subst hw
  subst h0
  have hE := hF.2.2.2.2.2.2
  refine vx_throw0 hx hb hl0 hown hfit (by decide) hk hini (vx_hat hgw hng (vx_c (va_Nw.use rfl hE.1.1) (vx_c (va_Nw.use rfl hE.1.2.1) (vx_c (va_Nw.use rfl hE.1.2.2) (vx_c (va_Nw.use rfl (hE.2.1 _)) vx_n))))) hgood hF.2.1.1 hF.2.1.2 hS hsize d0 d3 d4 d7 (fun x hx => (hnx x hx).elim) hRf hRl hRc hRs hlocks (fun u _ h1 h2 => ⟨(), trivial, ⟨hi, rfl, va_P_of (fun q hq => (va_P_mem hP hq).kept (h2 q.1 (va_P_mem hP hq).lt))⟩, Nat.le_trans hS.1 h1, fun q h3 h4 => (h2 q (Nat.lt_of_lt_of_le h3 hS.1)).trans (hS.2.1 q h3 h4)⟩) hS.2.2 hcl hsl
/-- .. what a callee threw goes on -/
theorem ex_pass {ce : Cell} {q9 : Addr} (hnx : ∀ x ∈ c.exceptionTable.toList, False) (hlocks : meth.locks = false) (hP : va_P D vwCl W1 H) (hS : va_S A s.heap H locs) (h1 : H[q9]? = some ce) (h2 : ce.vm = .none) (h3 : s.vm.findClass (exN code) = some ce.cls) (hcl : cells ≤ mc) (hsl : slots ≤ ms) (h0 : 0 < code) (hw : W1 = W2) :
    vx_W p l e R s m args below meth c H locs cells slots (vx_MQ below (va_Qi (fun r (_ : Unit) => code = 0 ∧ r = v) (fun _ u => va_P D vwCl W2 u.heap) A) (vx_X (fun (_ : Unit) => True) (fun E _ u => 0 < code ∧ E = exN code ∧ va_P D vwCl W2 u.heap) A) args s mc ms A) (F0 m pc ls rest) q9 := by
  subst hw
  exact vx_out (fun x hx => (hnx x hx).elim) hlocks h1 h2 h3 (fun u hu _ => ⟨(), trivial, ⟨h0, rfl, by rw [hu]; exact hP⟩, hS.F hu⟩) hS.2.2 hcl hsl
end EXR
