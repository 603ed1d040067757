/-! p35: the script's numbers -/
def cellV (L : Nat) (xs : Nat → Int32) (k : Int32) : Int32 := (if Int32.ofNat L ≤ k then (15518519 : Int32) * (k + 3) + 10753 else xs k.toNatClampNeg) &&& 2147483647
theorem and_nn (x : Int32) : 0 ≤ (x &&& 2147483647).toInt := by
  have b : (x.toBitVec &&& (2147483647 : BitVec 32)).toNat ≤ 2147483647 := by
    rw [BitVec.toNat_and]
    exact Nat.and_le_right
  show 0 ≤ (x.toBitVec &&& (2147483647 : BitVec 32)).toInt
  rw [BitVec.toInt_eq_toNat_of_lt (by omega)]
  omega
theorem cellV_nn (L : Nat) (xs : Nat → Int32) (k : Int32) : 0 ≤ (cellV L xs k).toInt := and_nn _
def CX (l : Launch) (y : MethodName) (ws : List Cond) (rm : Room) (b L : Nat) (xs : Nat → Int32) (As : List Value) (v : Int32) : Prop :=
  Met l y ws rm (va_Pc As (fun U => va_X b L xs U U.heap)) (vp_Si (fun r => r = v)) 0 0 (fun _ => False)
set_option maxRecDepth 20000 in
theorem c_L_cell (l : Launch) (b L : Nat) (xs : Nat → Int32) (hL : L ≤ 260) {k : Int32} (hk : 0 ≤ k.toInt) : CX l yL_cell wc_cell ({ frames := 0, cells := 0, slots := 0, locals := 0 } : Room) b L xs [.ref b, .int k] (cellV L xs k) := by
  refine Met.ofW (cc := cL_cell) (maxL := 2) (ret := some .int) (by decide) rfl ?_
  intro p e s m args below meth c s₁ B hml hv
  obtain ⟨rfl, hX⟩ := hv
  have hl := lv_entry ([.ref b, .int k] : List Value) (n := 2) (Nat.le_of_ble_eq_true rfl)
  rw [lg_entry_eq]
  have hx := B.exec
  have hb := B.bytes
  have hr := B.returns
  have hts := atoms_spec (ws := wc_cell) B.pre
  have hown : s.vm.findClass RL = some m.cls := findClass_of_methodNamed B.named
  have hlocks := B.notSynchronized
  have hbl : b < s.heap.size := by
    obtain ⟨scr, h1, -⟩ := hX
    exact (Array.getElem?_eq_some_iff.mp h1).1
  have hS : va_S (fun _ => False) s.heap s.heap [] := va_S.rf
  have hLn : (Int32.ofNat L).toInt = L := Int32.toInt_ofNat_of_lt (by omega)
  refine lv_iload_n hx hb dL_cell_0 rfl (lv_at hl 1 rfl) ?_
  refine lv_aload_n hx hb dL_cell_1 rfl (lv_at hl 0 rfl) ?_
  refine va_slen hx hb hX hbl (fun q => q) hS dL_cell_2 ?_
  by_cases c1 : Int32.ofNat L ≤ k
  · refine lv_icmp_ge (tgt := 12) hx hb dL_cell_3 (by decide) (fun _ => ?_) (fun q => absurd c1 q)
    refine lv_ldc (v := (15518519 : Int32)) hx hb hown (hts _ (List.mem_cons_of_mem _ gc_187)) dL_cell_12 ?_
    refine lv_iload_n hx hb dL_cell_14 rfl (lv_at hl 1 rfl) ?_
    refine lv_iconst (v := (3 : Int32)) hx hb dL_cell_15 (by decide) ?_
    refine lv_iadd hx hb dL_cell_16 ?_
    refine lv_imul hx hb dL_cell_17 ?_
    refine lv_sipush (v := (10753 : Int32)) hx hb dL_cell_18 (by decide) ?_
    refine lv_iadd hx hb dL_cell_21 ?_
    refine lv_ldc (v := (2147483647 : Int32)) hx hb hown (hts _ (List.mem_cons_of_mem _ gc_188)) dL_cell_22 ?_
    refine lv_iand hx hb dL_cell_24 ?_
    exact ro_iret hx hb hr hlocks dL_cell_25 (by unfold cellV; rw [if_pos c1])
  · refine lv_icmp_ge (tgt := 12) hx hb dL_cell_3 (by decide) (fun q => absurd q c1) (fun _ => ?_)
    refine lv_aload_n hx hb dL_cell_6 rfl (lv_at hl 0 rfl) ?_
    refine lv_iload_n hx hb dL_cell_7 rfl (lv_at hl 1 rfl) ?_
    have hin : vp_in k L := by
      rw [i32_le, hLn] at c1
      intro q
      rcases q with q | q
      · rw [i32_lt, i32_0] at q; omega
      · rw [tnc_d] at q; omega
    refine va_sld hx hb hX hbl (fun q => q) hS hin dL_cell_8 ?_
    refine lv_goto (tgt := 22) hx hb dL_cell_9 (by decide) ?_
    refine lv_ldc (v := (2147483647 : Int32)) hx hb hown (hts _ (List.mem_cons_of_mem _ gc_188)) dL_cell_22 ?_
    refine lv_iand hx hb dL_cell_24 ?_
    exact ro_iret hx hb hr hlocks dL_cell_25 (by unfold cellV; rw [if_neg c1])
theorem vx_call9 {b L : Nat} {xs : Nat → Int32} {U : State} {g : JFrame} {mk : MethodId} {a : Array Value} (h : va_X b L xs U U.heap) : va_X b L xs (U.calling g mk a) (U.calling g mk a).heap := va_X.moved (u := U) (U := U.calling g mk a) (Vm.Alike.refl U.vm) h
theorem pre_cx {s : State} {H : Heap} {locs : List Loc} {A : Nat → Prop} {b L : Nat} {xs : Nat → Int32} {As : List Value} (hX : va_X b L xs s s.heap) (hbl : b < s.heap.size) (hbA : ¬ A b) (hS : va_S A s.heap H locs) : PreS s H (va_Pc As (fun U => va_X b L xs U U.heap)) As :=
  ⟨fun _ _ _ _ h => ⟨h.1, vx_call9 h.2⟩, fun U hU hW => ⟨rfl, by show va_X b L xs U U.heap; rw [hU]; exact va_X.moved hW.alike (va_X.kept hX (hS.2.1 b hbl hbA))⟩⟩
section CXR
variable {p : Program} {l : Launch} {e : Env} {R : Room} {s : State} {m : MethodId} {args : Array Value} {below : List Frame} {meth : Method} {c : Code} {H : Heap} {locs : List Loc} {cells slots : Nat} {Q : State → Prop}
variable {pc : Nat} {ls : Array Slot} {rest : List Value} {cc : ByteArray} {nL : Nat} {A : Nat → Prop} {b L : Nat} {xs : Nat → Int32}
variable {y : MethodName} {bytes : ByteArray} {maxL n index : Nat} {ret : Option FieldType} {wy ws' : List Cond} {rm : Room} {Ts : List Cond} {own : String} {As : List Value} {st0 : List Value} {v : Int32}
theorem cxS (hc : CX l y wy rm b L xs As v) (S : CallFix p m c cc nL s args Ts own) (hT : GoodIn Ts (va_wsS own index y wy)) (hw : wy = Cond.code y bytes maxL ret :: ws') (hd : y.cls ≠ "java/lang/invoke/MethodHandle" ∧ y.cls ≠ "java/lang/invoke/VarHandle" ∧ (parseMethodDescriptor y.desc).map (fun d => d.parameters.length) = some n) (hrm : rm.cells = 0 ∧ rm.slots = 0 ∧ rm.frames + 1 ≤ R.frames ∧ 8 + (maxL + 11) + rm.locals ≤ R.locals) (hX : va_X b L xs s s.heap) (hbl : b < s.heap.size) (hbA : ¬ A b) (hS : va_S A s.heap H locs) (hn : As.length = n) (hsize : ls.size = nL) (hst : st0 = As.reverse ++ rest) (hW : (rest.map fun v => v.category).sum ≤ 8) (hdg : decode cc pc = .ok (.invokestatic index, 3)) (hf : cells ≤ R.cells ∧ slots ≤ R.slots)
    (kk : Wx p l e R s m args below meth c H locs cells slots Q (F0 m (pc + 3) ls (.int v :: rest))) : Wx p l e R s m args below meth c H locs cells slots Q (F0 m pc ls st0) :=
  ro_go (va_runS (As := As) (rest := rest) S hc (va_cwS n S.2.2.2.2 hT hw hrm.1 hrm.2.1 hd hrm.2.2) (pre_cx hX hbl hbA hS) rfl hn hsize hst (lv_room hW) hdg hf) kk
end CXR
section OKH
variable {T : Int} {z : SpT} {h k tk x : Int32}
theorem ok_tkZ (o : OK2 T z) (h0 : 100000 ≤ T) (h1 : T ≤ 1000000) : OK2 (T + 99) (tkZ h k z) := by
  unfold tkZ
  split
  · exact o.up (by omega)
  · exact o.call h0 h1 13 (by decide) _ _ _
theorem ok_tkL : ∀ (j : Nat) (T : Int) (z : SpT) (md : Nat), OK2 T z → 100000 ≤ T → T + 99 * j ≤ 1000000 → OK2 (T + 99 * j) (tkL h k tk j z md).1 := by
  intro j
  induction j with
  | zero => intro T z md o h0 h1; exact o.up (by omega)
  | succ j ih =>
    intro T z md o h0 h1
    rw [tkL]
    split
    · exact (ih (T + 99) _ _ (ok_tkZ o h0 (by omega)) (by omega) (by omega)).up (by omega)
    · exact o.up (by omega)
theorem ok_unZ : ∀ (j : Nat) (T : Int) (z : SpT), OK2 T z → 100000 ≤ T → T + 99 * j ≤ 1000000 → OK2 (T + 99 * j) (unZ j z) := by
  intro j
  induction j with
  | zero => intro T z o h0 h1; exact o.up (by omega)
  | succ j ih =>
    intro T z o h0 h1
    rw [unZ]
    exact (ih (T + 99) _ (o.call h0 (by omega) 17 (by decide) 0 0 0) (by omega) (by omega)).up (by omega)
theorem ok_duZ (o : OK2 T z) (h0 : 100000 ≤ T) (h1 : T ≤ 900000) : OK2 (T + 198) (duZ z) := by
  unfold duZ
  split
  · exact o.up (by omega)
  · exact ((o.call h0 (by omega) 9 (by decide) _ _ _).call (by omega) (by omega) 17 (by decide) 0 0 0).up (by omega)
theorem ok_holdP (o : OK2 T z) (h0 : 100000 ≤ T) (h1 : T ≤ 890000) : OK2 (T + 3000) (holdP z x) := by
  have a : OK2 (T + 1188) (hoK z x).1 := by
    unfold hoK tkA
    split
    · exact (ok_tkL (h := rmJ x 5) (k := rmJ (x / 8) 3) (tk := m_X7_fewestTakings (sU (pN z)) (rmJ x 5) (rmJ (x / 8) 3)) 12 T z 0 o h0 (by omega)).up (by omega)
    · exact o.up (by omega)
  have l := hoK_le z x
  unfold holdP
  exact (ok_duZ (ok_unZ _ _ _ a (by omega) (by omega)) (by omega) (by omega)).up (by omega)
end OKH
