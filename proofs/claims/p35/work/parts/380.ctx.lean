section PERM
variable {D : va_G} {cl : List vw_C} {H : Heap} {ws ws' : va_W} {A : Nat → Prop} {q : Nat × va_E}
theorem va_P_of (h : ∀ q ∈ ws, va_at D cl q H) : va_P D cl ws H := fun _ q hq => h q (List.mem_of_getElem? hq)
theorem va_P_mem (h : va_P D cl ws H) (hq : q ∈ ws) : va_at D cl q H := by
  obtain ⟨k, hk⟩ := List.mem_iff_getElem?.mp hq
  exact h k q hk
theorem va_P_perm (p : ws.Perm ws') (h : va_P D cl ws H) : va_P D cl ws' H := va_P_of (fun _ hq => va_P_mem h (p.mem_iff.mpr hq))
theorem va_D_iff : va_D A ws ↔ List.Pairwise (· ≠ ·) (ws.map Prod.fst) ∧ ∀ q ∈ ws, A q.1 := by
  constructor
  · intro h
    refine ⟨?_, fun q hq => ?_⟩
    · rw [List.pairwise_iff_getElem]
      intro i j hi hj hij e
      rw [List.length_map] at hi hj
      rw [List.getElem_map, List.getElem_map] at e
      have := h.1 i j _ _ (List.getElem?_eq_getElem hi) (List.getElem?_eq_getElem hj) e
      omega
    · obtain ⟨k, hk⟩ := List.mem_iff_getElem?.mp hq
      exact h.2 k q hk
  · intro h
    refine ⟨fun i j p q hp hq e => ?_, fun k q hk => h.2 q (List.mem_of_getElem? hk)⟩
    have g := List.pairwise_iff_getElem.mp h.1
    obtain ⟨hi, e1⟩ := List.getElem?_eq_some_iff.mp hp
    obtain ⟨hj, e2⟩ := List.getElem?_eq_some_iff.mp hq
    rcases Nat.lt_trichotomy i j with c | c | c
    · exact absurd (by rw [List.getElem_map, List.getElem_map, e1, e2]; exact e) (g i j (by rw [List.length_map]; exact hi) (by rw [List.length_map]; exact hj) c)
    · exact c
    · exact absurd (by rw [List.getElem_map, List.getElem_map, e1, e2]; exact e.symm) (g j i (by rw [List.length_map]; exact hj) (by rw [List.length_map]; exact hi) c)
theorem va_D_perm (p : ws.Perm ws') (h : va_D A ws) : va_D A ws' := by
  rw [va_D_iff] at h ⊢
  exact ⟨(List.Perm.pairwise_iff (fun h e => h e.symm) (p.map Prod.fst)).mp h.1, fun q hq => h.2 q (p.mem_iff.mpr hq)⟩
/-- the addresses say all: a world with the same addresses lies apart too -/
theorem va_D_adr (e : (ws'.map Prod.fst).Perm (ws.map Prod.fst)) (h : va_D A ws) : va_D A ws' := by
  rw [va_D_iff] at h ⊢
  refine ⟨(List.Perm.pairwise_iff (fun h e => h e.symm) e).mpr h.1, fun q hq => ?_⟩
  obtain ⟨z, hz, e2⟩ := List.mem_map.mp (e.mem_iff.mp (List.mem_map_of_mem (f := Prod.fst) hq))
  rw [← e2]
  exact h.2 z hz
theorem va_P_left {w1 w2 : va_W} (h : va_P D cl (w1 ++ w2) H) : va_P D cl w1 H := va_P_of (fun _ hq => va_P_mem h (List.mem_append_left _ hq))
theorem va_P_right {w1 w2 : va_W} (h : va_P D cl (w1 ++ w2) H) : va_P D cl w2 H := va_P_of (fun _ hq => va_P_mem h (List.mem_append_right _ hq))
theorem va_D_left {w1 w2 : va_W} (h : va_D A (w1 ++ w2)) : va_D A w1 := by
  rw [va_D_iff] at h ⊢
  rw [List.map_append] at h
  exact ⟨(List.pairwise_append.mp h.1).1, fun q hq => h.2 q (List.mem_append_left _ hq)⟩
theorem va_D_right {w1 w2 : va_W} (h : va_D A (w1 ++ w2)) : va_D A w2 := by
  rw [va_D_iff] at h ⊢
  rw [List.map_append] at h
  exact ⟨(List.pairwise_append.mp h.1).2.1, fun q hq => h.2 q (List.mem_append_right _ hq)⟩
/-- moving a block to the front -/
theorem pm_in {X R Y R' : va_W} (h : R.Perm (Y ++ R')) : (X ++ R).Perm (Y ++ (X ++ R')) := (List.Perm.append_left X h).trans (List.perm_append_comm_assoc X Y R')
theorem pm_two {W Y1 Y2 W1 W2 : va_W} (h2 : W.Perm (Y2 ++ W1)) (h1 : W1.Perm (Y1 ++ W2)) : W.Perm ((Y1 ++ Y2) ++ W2) := by
  refine h2.trans ((List.Perm.append_left Y2 h1).trans ?_)
  rw [List.append_assoc]
  exact List.perm_append_comm_assoc Y2 Y1 W2
end PERM
abbrev Wx := @W
section CTX
variable {l : Launch} {D : va_G} {cy : Nat → ClassId} {t : FxA} {y : MethodName} {ws : List Cond} {rm : Room} {wc w' W W' r : va_W} {As : List Value} {v : Int32} {vl : Int64}
theorem ctx_A (h : W.Perm (wc ++ r)) {sz : Nat} : ∀ q, va_A wc sz q → va_A W sz q := by
  intro q z
  rcases z with ⟨k, e, hk⟩ | z
  · obtain ⟨j, hj⟩ := List.mem_iff_getElem?.mp (h.mem_iff.mpr (List.mem_append_left r (List.mem_of_getElem? hk)))
    exact Or.inl ⟨j, e, hj⟩
  · exact Or.inr z
theorem ctx_P (h : W.Perm (wc ++ r)) {cl : List vw_C} {H : Heap} (hP : va_P D cl W H) : va_P D cl wc H := va_P_left (va_P_perm h hP)
theorem ctx_D (h : W.Perm (wc ++ r)) {A : Nat → Prop} (hD : va_D A W) : va_D A wc := va_D_left (va_D_perm h hD)
theorem ctx_post {cl : List vw_C} {sz : Nat} (h1 : W.Perm (wc ++ r)) (h2 : W'.Perm (w' ++ r)) {st u : State} (hsz : st.heap.size = sz) (hP : va_P D cl W st.heap) (hD : va_D (fun _ => True) W) (hF : va_F (va_A wc sz) st u) (hB : va_P D cl w' u.heap) : va_P D cl W' u.heap ∧ va_F (va_A W sz) st u := by
  refine ⟨va_P_of (fun q hq => ?_), hF.1, fun q h3 h4 => hF.2 q h3 (fun z => h4 (ctx_A h1 q z))⟩
  rcases List.mem_append.mp (h2.mem_iff.mp hq) with h | h
  · exact va_P_mem hB h
  · have k := va_P_mem hP (h1.mem_iff.mpr (List.mem_append_right wc h))
    refine k.kept (hF.2 q.1 k.lt (fun z => ?_))
    rcases z with ⟨j, e, hj⟩ | z
    · have nd := (va_D_iff.mp (va_D_perm h1 hD)).1
      rw [List.map_append] at nd
      exact (List.pairwise_append.mp nd).2.2 _ (List.mem_map_of_mem (f := Prod.fst) (List.mem_of_getElem? hj)) _ (List.mem_map_of_mem (f := Prod.fst) h) rfl
    · have := k.lt
      omega
theorem RO.ctx (hc : RO l D cy y ws rm wc As v) (h1 : W.Perm (wc ++ r)) : RO l D cy y ws rm W As v := by
  unfold RO at hc ⊢
  refine MetFree.mono hc (fun _ _ hp => ⟨hp.1, ctx_P h1 hp.2.1, hp.2.2⟩) (fun _ _ _ _ _ h => h) (fun _ _ _ _ _ h => h)
theorem MU.ctx (hc : MU l D cy y ws rm wc w' As v) (h1 : W.Perm (wc ++ r)) (h2 : W'.Perm (w' ++ r)) : MU l D cy y ws rm W W' As v := by
  intro sz
  refine MetFree.mono (hc sz) (fun a s hp => ⟨hp.1, hp.2.1, ctx_P h1 hp.2.2.1, ctx_D h1 hp.2.2.2.1, hp.2.2.2.2⟩) (fun _ _ _ _ _ h => h) (fun a s o u hp hq => ?_)
  obtain ⟨⟨⟨x, z, e1, e2, e3⟩, e4⟩, L, e5, e6⟩ := hq
  obtain ⟨k1, k2⟩ := ctx_post h1 h2 hp.2.1 hp.2.2.1 hp.2.2.2.1 e4 e3
  exact ⟨⟨⟨x, z, e1, e2, k1⟩, k2⟩, L, e5, fun q hq => ctx_A h1 _ (e6 q hq)⟩
theorem MV.ctx (hc : MV l D cy y ws rm wc w' As) (h1 : W.Perm (wc ++ r)) (h2 : W'.Perm (w' ++ r)) : MV l D cy y ws rm W W' As := by
  intro sz
  refine MetFree.mono (hc sz) (fun a s hp => ⟨hp.1, hp.2.1, ctx_P h1 hp.2.2.1, ctx_D h1 hp.2.2.2.1, hp.2.2.2.2⟩) (fun _ _ _ _ _ h => h) (fun a s o u hp hq => ?_)
  obtain ⟨⟨⟨z, e1, e2, e3⟩, e4⟩, L, e5, e6⟩ := hq
  obtain ⟨k1, k2⟩ := ctx_post h1 h2 hp.2.1 hp.2.2.1 hp.2.2.2.1 e4 e3
  exact ⟨⟨⟨z, e1, e2, k1⟩, k2⟩, L, e5, fun q hq => ctx_A h1 _ (e6 q hq)⟩
theorem MUf.ctx (hc : MUf l D cy t y ws rm wc w' As v) (h1 : W.Perm (wc ++ r)) (h2 : W'.Perm (w' ++ r)) : MUf l D cy t y ws rm W W' As v := by
  intro sz
  refine MetFree.mono (hc sz) (fun a s hp => ⟨hp.1, hp.2.1, ctx_P h1 hp.2.2.1, ctx_D h1 hp.2.2.2.1, hp.2.2.2.2.1, hp.2.2.2.2.2.kept (fun _ _ _ => rfl) (ctx_A h1)⟩) (fun _ _ _ _ _ h => h) (fun a s o u hp hq => ?_)
  obtain ⟨⟨⟨x, z, e1, e2, e3⟩, e4⟩, L, e5, e6⟩ := hq
  obtain ⟨k1, k2⟩ := ctx_post h1 h2 hp.2.1 hp.2.2.1 hp.2.2.2.1 e4 e3
  exact ⟨⟨⟨x, z, e1, e2, k1⟩, k2⟩, L, e5, fun q hq => ctx_A h1 _ (e6 q hq)⟩
theorem MVf.ctx (hc : MVf l D cy t y ws rm wc w' As) (h1 : W.Perm (wc ++ r)) (h2 : W'.Perm (w' ++ r)) : MVf l D cy t y ws rm W W' As := by
  intro sz
  refine MetFree.mono (hc sz) (fun a s hp => ⟨hp.1, hp.2.1, ctx_P h1 hp.2.2.1, ctx_D h1 hp.2.2.2.1, hp.2.2.2.2.1, hp.2.2.2.2.2.kept (fun _ _ _ => rfl) (ctx_A h1)⟩) (fun _ _ _ _ _ h => h) (fun a s o u hp hq => ?_)
  obtain ⟨⟨⟨z, e1, e2, e3⟩, e4⟩, L, e5, e6⟩ := hq
  obtain ⟨k1, k2⟩ := ctx_post h1 h2 hp.2.1 hp.2.2.1 hp.2.2.2.1 e4 e3
  exact ⟨⟨⟨z, e1, e2, k1⟩, k2⟩, L, e5, fun q hq => ctx_A h1 _ (e6 q hq)⟩
/-- the end told in other words -/
theorem MV.post (hc : MV l D cy y ws rm W w' As) (h : ∀ H : Heap, va_P D vwCl w' H → va_P D vwCl W' H) : MV l D cy y ws rm W W' As := by
  intro sz
  refine MetFree.mono (hc sz) (fun _ _ hp => hp) (fun _ _ _ _ _ h => h) (fun a s o u hp hq => ?_)
  obtain ⟨⟨⟨z, e1, e2, e3⟩, e4⟩, L, e5, e6⟩ := hq
  exact ⟨⟨⟨z, e1, e2, h _ e3⟩, e4⟩, L, e5, e6⟩
/-- contracts of methods that may throw: code 0 is an answer, the others a class of exception -/
def EX (l : Launch) (D : va_G) (cy : Nat → ClassId) (t : FxA) (y : MethodName) (ws : List Cond) (rm : Room) (w w' : va_W) (As : List Value) (mc ms code : Nat) (v : Int32) : Prop := ∀ sz : Nat,
  vx_Met l y ws rm (va_Pc As (fun U => U.heap.size = sz ∧ va_P D vwCl w U.heap ∧ va_D (fun _ => True) w ∧ GK D cy U ∧ FX t (va_A w sz) U U.heap)) (va_Qi (fun r (_ : Unit) => code = 0 ∧ r = v) (fun _ u => va_P D vwCl w' u.heap) (va_A w sz)) (vx_X (fun (_ : Unit) => True) (fun E _ u => 0 < code ∧ E = exN code ∧ va_P D vwCl w' u.heap) (va_A w sz)) mc ms (va_A w sz)
theorem EX.ctx {mc ms code : Nat} (hc : EX l D cy t y ws rm wc w' As mc ms code v) (h1 : W.Perm (wc ++ r)) (h2 : W'.Perm (w' ++ r)) : EX l D cy t y ws rm W W' As mc ms code v := by
  intro sz
  refine MetFree.mono (hc sz) (fun a s hp => ⟨hp.1, hp.2.1, ctx_P h1 hp.2.2.1, ctx_D h1 hp.2.2.2.1, hp.2.2.2.2.1, hp.2.2.2.2.2.kept (fun _ _ _ => rfl) (ctx_A h1)⟩) (fun _ _ _ _ _ h => h) (fun a s o u hp hq => ?_)
  rcases hq with ⟨⟨⟨x, z, e1, e2, e3⟩, e4⟩, L, e5, e6⟩ | ⟨q, e0, E, ce, L, ⟨z, g1, ⟨g2, g3, g4⟩, g5⟩, g6, g7, g8, g9, g10, g11⟩
  · obtain ⟨k1, k2⟩ := ctx_post h1 h2 hp.2.1 hp.2.2.1 hp.2.2.2.1 e4 e3
    exact Or.inl ⟨⟨⟨x, z, e1, e2, k1⟩, k2⟩, L, e5, fun q hq => ctx_A h1 _ (e6 q hq)⟩
  · obtain ⟨k1, k2⟩ := ctx_post h1 h2 hp.2.1 hp.2.2.1 hp.2.2.2.1 g5 g4
    exact Or.inr ⟨q, e0, E, ce, L, ⟨z, g1, ⟨g2, g3, k1⟩, k2⟩, g6, g7, g8, g9, g10, fun z hz => ctx_A h1 _ (g11 z hz)⟩
theorem EX.body {mc ms code : Nat} {cc : ByteArray} {maxL : Nat} {ret : Option FieldType} {ws' : List Cond} (hy : plainName y.cls = true) (hw : ws = Cond.code y cc maxL ret :: ws') (hlen : (lg_sl As).length ≤ maxL)
    (k : ∀ p e s m below meth c, p.tables.exec = Jvm.exec → c.code = cc → c.maxLocals = maxL → (∀ x ∈ c.exceptionTable.toList, False) → meth.sig.returnType = ret → (∀ z ∈ ws, z.before As.toArray s = true) → s.vm.findClass y.cls = some m.cls → meth.locks = false → va_P D vwCl W s.heap → GK D cy s → ∀ ls : Array Slot, lv_has ls maxL (lv_args 0 As) →
      ∀ A : Nat → Prop, va_D A W → (∀ q, s.heap.size ≤ q → A q) → va_S A s.heap s.heap [] → FX t A s s.heap →
      @Wx p l e rm s m As.toArray below meth c s.heap [] 0 0 (vx_MQ below (va_Qi (fun r (_ : Unit) => code = 0 ∧ r = v) (fun _ u => va_P D vwCl W' u.heap) A) (vx_X (fun (_ : Unit) => True) (fun E _ u => 0 < code ∧ E = exN code ∧ va_P D vwCl W' u.heap) A) As.toArray s mc ms A) (F0 m 0 ls [])) : EX l D cy t y ws rm W W' As mc ms code v := by
  intro sz
  refine vx_ofW (cc := cc) (maxL := maxL) (ret := ret) hy hw ?_
  intro p e s m args below meth c s₁ B hml hnx hv
  obtain ⟨rfl, hsz, hP, hD, hG, hF⟩ := hv
  subst hsz
  have hl := lv_entry As (n := maxL) hlen
  rw [lg_entry_eq]
  exact k p e s m below meth c B.exec B.bytes hml hnx B.returns (atoms_spec (ws := ws) B.pre) (findClass_of_methodNamed B.named) B.notSynchronized hP hG _ hl _ (hD.self (sz := s.heap.size)) (fun q h => Or.inr h) va_S.rf hF
end CTX
