/-! p35: contracts whose world behind is told by a value of its own -/
def HG {U9 : Type} (F C S Lo : Nat) (l : Launch) (D : va_G) (cy : Nat → ClassId) (t : FxA) (y : MethodName) (ws : List Cond) (w : va_W) (w' : U9 → va_W) (P9 : Int32 → U9 → Prop) (As : List Value) : Prop := ∀ sz : Nat,
  Met l y ws ({ frames := F, cells := C, slots := S, locals := Lo } : Room) (va_Pc As (fun U => U.heap.size = sz ∧ va_P D vwCl w U.heap ∧ va_D (fun _ => True) w ∧ GK D cy U ∧ FX t (va_A w sz) U U.heap)) (va_Qi P9 (fun u t => va_P D vwCl (w' u) t.heap) (va_A w sz)) C S (va_A w sz)
section HGB
variable {U9 : Type} {P9 : Int32 → U9 → Prop} {F C S Lo : Nat} {l : Launch} {D : va_G} {cy : Nat → ClassId} {t : FxA} {y : MethodName} {ws ws' : List Cond} {wc W r : va_W} {w' W' : U9 → va_W} {As : List Value} {cc : ByteArray} {maxL : Nat} {ret : Option FieldType}
theorem HG.ctx (hc : HG F C S Lo l D cy t y ws wc w' P9 As) (h1 : W.Perm (wc ++ r)) (h2 : ∀ u, (W' u).Perm (w' u ++ r)) : HG F C S Lo l D cy t y ws W W' P9 As := by
  intro sz
  refine MetFree.mono (hc sz) (fun a s hp => ⟨hp.1, hp.2.1, ctx_P h1 hp.2.2.1, ctx_D h1 hp.2.2.2.1, hp.2.2.2.2.1, hp.2.2.2.2.2.kept (fun _ _ _ => rfl) (ctx_A h1)⟩) (fun _ _ _ _ _ h => h) (fun a s o u hp hq => ?_)
  obtain ⟨⟨⟨x, z, e1, e2, e3⟩, e4⟩, L, e5, e6⟩ := hq
  obtain ⟨k1, k2⟩ := ctx_post h1 (h2 z) hp.2.1 hp.2.2.1 hp.2.2.2.1 e4 e3
  exact ⟨⟨⟨x, z, e1, e2, k1⟩, k2⟩, L, e5, fun q hq => ctx_A h1 _ (e6 q hq)⟩
theorem HG.body (hy : plainName y.cls = true) (hw : ws = Cond.code y cc maxL ret :: ws') (hlen : (lg_sl As).length ≤ maxL)
    (k : ∀ p e s m below meth c, p.tables.exec = Jvm.exec → c.code = cc → c.maxLocals = maxL → meth.sig.returnType = ret → (∀ z ∈ ws, z.before As.toArray s = true) → s.vm.findClass y.cls = some m.cls → meth.locks = false → va_P D vwCl W s.heap → GK D cy s → ∀ ls : Array Slot, lv_has ls maxL (lv_args 0 As) →
      ∀ A : Nat → Prop, va_D A W → (∀ q, s.heap.size ≤ q → A q) → va_S A s.heap s.heap [] → FX t A s s.heap →
      @Wx p l e ({ frames := F, cells := C, slots := S, locals := Lo } : Room) s m As.toArray below meth c s.heap [] 0 0 (MQ below (va_Qi P9 (fun u t => va_P D vwCl (W' u) t.heap) A) As.toArray s C S A) (F0 m 0 ls [])) : HG F C S Lo l D cy t y ws W W' P9 As := by
  intro sz
  refine Met.ofW (cc := cc) (maxL := maxL) (ret := ret) hy hw ?_
  intro p e s m args below meth c s₁ B hml hv
  obtain ⟨rfl, hsz, hP, hD, hG, hF⟩ := hv
  subst hsz
  have hl := lv_entry As (n := maxL) hlen
  have hts := atoms_spec (ws := ws) B.pre
  rw [lg_entry_eq]
  exact k p e s m below meth c B.exec B.bytes hml B.returns hts (findClass_of_methodNamed B.named) B.notSynchronized hP hG _ hl _ (hD.self (sz := s.heap.size)) (fun q h => Or.inr h) va_S.rf hF
end HGB
section HGR
variable {U9 : Type} {P9 : Int32 → U9 → Prop}
variable {p : Program} {l : Launch} {e : Env} {R : Room} {s : State} {m : MethodId} {args : Array Value} {below : List Frame} {meth : Method} {c : Code} {H : Heap} {locs : List Loc} {cells slots : Nat} {Q : State → Prop}
variable {pc : Nat} {ls : Array Slot} {rest : List Value} {D : va_G} {cy : Nat → ClassId} {cc : ByteArray} {t : FxA} {W1 W2 : va_W} {x : Int32} {A A0 : Nat → Prop} {nL : Nat} {w' : U9 → va_W}
variable {y : MethodName} {bytes : ByteArray} {maxL n index : Nat} {ret : Option FieldType} {wy ws' : List Cond} {Ts : List Cond} {own : String} {As : List Value} {st0 : List Value} {F C S Lo C9 S9 : Nat}
theorem hg_zret (hx : p.tables.exec = Jvm.exec) (hb : c.code = cc) (hr : meth.sig.returnType = some .boolean) (hlocks : meth.locks = false) (hn : narrow .boolean (.int x) = .int x) (u : U9) (hv : P9 x u) (hw : w' u = W1) (hP : va_P D vwCl W1 H) (hS : va_S A s.heap H locs) (hcl : cells ≤ C9) (hsl : slots ≤ S9) (hdg : decode cc pc = .ok (.ireturn, 1)) :
    Wx p l e R s m args below meth c H locs cells slots (MQ below (va_Qi P9 (fun u t => va_P D vwCl (w' u) t.heap) A) args s C9 S9 A) (F0 m pc ls [.int x]) := by
  subst hw
  refine W.widen hcl hsl ?_
  exact W.zret hx hb hr hn (fun v hu _ => ⟨⟨x, u, rfl, hv, by show va_P D vwCl (w' u) v.heap; rw [hu]; exact hP⟩, hS.F hu⟩) hS.2.2 hdg hlocks
theorem hg_iret (hx : p.tables.exec = Jvm.exec) (hb : c.code = cc) (hr : meth.sig.returnType = some .int) (hlocks : meth.locks = false) (u : U9) (hv : P9 x u) (hw : w' u = W1) (hP : va_P D vwCl W1 H) (hS : va_S A s.heap H locs) (hcl : cells ≤ C9) (hsl : slots ≤ S9) (hdg : decode cc pc = .ok (.ireturn, 1)) :
    Wx p l e R s m args below meth c H locs cells slots (MQ below (va_Qi P9 (fun u t => va_P D vwCl (w' u) t.heap) A) args s C9 S9 A) (F0 m pc ls [.int x]) := by
  subst hw
  refine W.widen hcl hsl ?_
  exact W.iret hx hb hr (fun v hu _ => ⟨⟨x, u, rfl, hv, by show va_P D vwCl (w' u) v.heap; rw [hu]; exact hP⟩, hS.F hu⟩) hS.2.2 hdg hlocks
theorem hgS (hc : HG F C S Lo l D cy t y wy W1 w' P9 As) (S0 : CallFix p m c cc nL s args Ts own) (hT : GoodIn Ts (va_wsS own index y wy)) (hw : wy = Cond.code y bytes maxL ret :: ws') (hd : y.cls ≠ "java/lang/invoke/MethodHandle" ∧ y.cls ≠ "java/lang/invoke/VarHandle" ∧ (parseMethodDescriptor y.desc).map (fun d => d.parameters.length) = some n) (hrm : F + 1 ≤ R.frames ∧ 8 + (maxL + 11) + Lo ≤ R.locals) (hG : GK D cy s) (hF : FX t A0 s s.heap) (hP : va_P D vwCl W1 H) (hD : va_D A0 W1) (hS : va_S A0 s.heap H locs) (hA : ∀ q, s.heap.size ≤ q → A0 q) (ha : ∀ u, (w' u).map Prod.fst = W1.map Prod.fst) (hn : As.length = n) (hsize : ls.size = nL) (hst : st0 = As.reverse ++ rest) (hW : (rest.map fun v => v.category).sum ≤ 8) (hdg : decode cc pc = .ok (.invokestatic index, 3)) (hf : cells + C ≤ R.cells ∧ slots + S ≤ R.slots)
    (kk : ∀ (v : Int32) (u : U9) (H1 : Heap) (locs1 : List Loc), P9 v u → va_P D vwCl (w' u) H1 → va_D A0 (w' u) → va_S A0 s.heap H1 locs1 → Wx p l e R s m args below meth c H1 locs1 (cells + C) (slots + S) Q (F0 m (pc + 3) ls (.int v :: rest))) : Wx p l e R s m args below meth c H locs cells slots Q (F0 m pc ls st0) := by
  have hF9 := w_free hD hS hA
  refine va_calli (va_runS (As := As) (rest := rest) S0 (hc H.size) (va_cwS n S0.2.2.2.2 hT hw rfl rfl hd hrm) (pre_muf hG hF hS hP hD hF9) rfl hn hsize hst (lv_room hW) hdg hf) hS (fun q _ h => hF9 q h) hF9 (fun r u t H1 locs1 ht hvm hw hB hz hk hS1 => ?_)
  have hB : va_P D vwCl (w' u) t.heap := hB
  rw [ht] at hB
  exact kk r u H1 locs1 hw hB (w_adr (ha u) hD) hS1
end HGR
