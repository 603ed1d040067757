/-! p35: what the law's start gives: the constant things, the classes -/
theorem fl_in {args : Array Value} {s : State} (h : (Jvm.Cond.and given_1 narrow_1).before args s = true) : ∀ w ∈ flatC (Jvm.Cond.and given_1 narrow_1), w.before args s = true := flat_of_before _ h
def tFir9 : Term := .static "SparePool" "FIRST_SETTING" "[I"
def tMax9 : Term := .static "SparePool" "MAX_SETTING" "[I"
def tStr9 (i : Nat) : Term := .string RX6 (72 + 2 * i)
theorem fi_F : ∀ j, j < 3 → Cond.eq (.elem tFir9 (.int (Int32.ofNat j))) (.int (fxF j)) ∈ flatC (Jvm.Cond.and given_1 narrow_1) := by decide +kernel
theorem fi_M : ∀ j, j < 3 → Cond.eq (.elem tMax9 (.int (Int32.ofNat j))) (.int (fxM j)) ∈ flatC (Jvm.Cond.and given_1 narrow_1) := by decide +kernel
theorem fi_2 : Cond.arrayOf tFir9 .int ∈ flatC (Jvm.Cond.and given_1 narrow_1) ∧ Cond.eq (.length tFir9) (.int 3) ∈ flatC (Jvm.Cond.and given_1 narrow_1) ∧ Cond.arrayOf tMax9 .int ∈ flatC (Jvm.Cond.and given_1 narrow_1) ∧ Cond.eq (.length tMax9) (.int 3) ∈ flatC (Jvm.Cond.and given_1 narrow_1) := by decide +kernel
theorem fi_ex : ∀ i, i < 7 → Cond.exactly (tStr9 i) "java/lang/String" ∈ flatC (Jvm.Cond.and given_1 narrow_1) ∧ Cond.eq (.field (tStr9 i) "java/lang/String" "coder" "B") (.int 0) ∈ flatC (Jvm.Cond.and given_1 narrow_1) ∧ Cond.arrayOf (.field (tStr9 i) "java/lang/String" "value" "[B") .byte ∈ flatC (Jvm.Cond.and given_1 narrow_1) ∧ Cond.eq (.length (.field (tStr9 i) "java/lang/String" "value" "[B")) (.int (Int32.ofNat (fxLen.getD i 0))) ∈ flatC (Jvm.Cond.and given_1 narrow_1) := by decide +kernel
theorem fi_el : ∀ i, i < 7 → ∀ j, j < fxLen.getD i 0 → Cond.eq (.elem (.field (tStr9 i) "java/lang/String" "value" "[B") (.int (Int32.ofNat j))) (.int ((fxByt.getD i []).getD j 0)) ∈ flatC (Jvm.Cond.and given_1 narrow_1) := by decide +kernel
theorem fi_ne : ∀ i, i < 7 → ∀ j, j < 7 → i < j → Cond.not (Cond.eq (tStr9 i) (tStr9 j)) ∈ flatC (Jvm.Cond.and given_1 narrow_1) := by decide +kernel
theorem fi_z : Cond.eq (.static "java/lang/String" "COMPACT_STRINGS" "Z") (.int 1) ∈ flatC (Jvm.Cond.and given_1 narrow_1) ∧ Cond.isRef (.static "jdk/internal/util/Preconditions" "SIOOBE_FORMATTER" "Ljava/util/function/BiFunction;") ∈ flatC (Jvm.Cond.and given_1 narrow_1) ∧ Cond.isRef (.static Bundle.tN "UNASSIGNED_STACK" Bundle.steD) ∈ flatC (Jvm.Cond.and given_1 narrow_1) ∧ Cond.isRef (.static Bundle.tN "SUPPRESSED_SENTINEL" Bundle.listD) ∈ flatC (Jvm.Cond.and given_1 narrow_1) := by decide +kernel
theorem fi_nc9 : ∀ i, i < 3 → ∀ j, j < 3 → ¬ i = j → Cond.not (.castable (exN (i + 1)) (exN (j + 1))) ∈ flatC (Jvm.Cond.and given_1 narrow_1) := by decide +kernel
theorem fi_nc (i : Nat) (h1 : 1 ≤ i) (h2 : i < 4) (j : Nat) (h3 : 1 ≤ j) (h4 : j < 4) (h : ¬ i = j) : Cond.not (.castable (exN i) (exN j)) ∈ flatC (Jvm.Cond.and given_1 narrow_1) := by
  have g := fi_nc9 (i - 1) (by omega) (j - 1) (by omega) (by omega)
  rw [Nat.sub_add_cancel h1, Nat.sub_add_cancel h3] at g
  exact g
theorem ti_lay : Cond.laysStatic "SparePool" "FIRST_SETTING" "[I" ∈ lw_tbl ∧ Cond.laysStatic "SparePool" "MAX_SETTING" "[I" ∈ lw_tbl ∧ Cond.laysStatic "java/lang/String" "COMPACT_STRINGS" "Z" ∈ lw_tbl ∧ Cond.laysStatic "jdk/internal/util/Preconditions" "SIOOBE_FORMATTER" "Ljava/util/function/BiFunction;" ∈ lw_tbl ∧ Cond.laysStatic Bundle.tN "UNASSIGNED_STACK" Bundle.steD ∈ lw_tbl ∧ Cond.laysStatic Bundle.tN "SUPPRESSED_SENTINEL" Bundle.listD ∈ lw_tbl := by decide +kernel
theorem ti_ini : Cond.initialized "SparePool" ∈ lw_tbl ∧ Cond.initialized "java/lang/String" ∈ lw_tbl ∧ Cond.initialized "jdk/internal/util/Preconditions" ∈ lw_tbl ∧ Cond.initialized Bundle.tN ∈ lw_tbl := by decide +kernel
theorem ti_str : Cond.stringRef RX6 72 "khb" ∈ lw_tbl ∧ Cond.stringRef RX6 74 "uht" ∈ lw_tbl ∧ Cond.stringRef RX6 76 "u" ∈ lw_tbl ∧ Cond.stringRef RX6 78 "uu" ∈ lw_tbl ∧ Cond.stringRef RX6 80 "uup" ∈ lw_tbl ∧ Cond.stringRef RX6 82 "n" ∈ lw_tbl ∧ Cond.stringRef RX6 84 "" ∈ lw_tbl := by decide +kernel
theorem ti_ao : Cond.arrayOver (.object RX5) ∈ lw_tbl ∧ Cond.arrayClass .int ∈ lw_tbl ∧ Cond.arrayClass .boolean ∈ lw_tbl ∧ Cond.arrayClass .byte ∈ lw_tbl := by decide +kernel
theorem ti_de : Cond.declares (Bundle.init0 "java/lang/RuntimeException") ∈ lw_tbl ∧ Cond.declares (Bundle.init0 "java/lang/Exception") ∈ lw_tbl ∧ Cond.declares (Bundle.init0 Bundle.tN) ∈ lw_tbl := by decide +kernel
theorem ti_ca9 : ∀ i, i < 3 → Cond.castable (exN (i + 1)) (exN (i + 1)) ∈ lw_tbl := by decide +kernel
theorem ti_ca (i : Nat) (h1 : 1 ≤ i) (h2 : i < 4) : Cond.castable (exN i) (exN i) ∈ lw_tbl := by
  have g := ti_ca9 (i - 1) (by omega)
  rw [Nat.sub_add_cancel h1] at g
  exact g
theorem nwF_in : ∀ q ∈ nwF, Cond.fieldLinkNest q.1 q.2.1 q.2.2.1 q.2.2.2.1 q.2.2.2.2 "SparePool" ∈ lw_tbl := by decide +kernel
theorem nwM_in : ∀ q ∈ nwM, Cond.methodLinkNest q.1 q.2.1 q.2.2 "SparePool" ∈ lw_tbl := by decide +kernel
theorem exN_3 (i : Nat) : ∃ j, 1 ≤ j ∧ j < 4 ∧ exN i = exN j := by
  match i with
  | 0 => exact ⟨3, by decide, by decide, rfl⟩
  | 1 => exact ⟨1, by decide, by decide, rfl⟩
  | 2 => exact ⟨2, by decide, by decide, rfl⟩
  | i + 3 => exact ⟨3, by decide, by decide, rfl⟩
theorem start_fx {b : Nat} {s : State} (h : (Jvm.Cond.and given_1 narrow_1).before #[Value.ref b] s = true) (hts : ∀ w ∈ lw_tbl, w.before #[Value.ref b] s = true) : ∃ t : FxA, FX t (fun q => s.heap.size ≤ q) s s.heap := by
  have hs := fl_in h
  have hA : ∀ a : Nat, a < s.heap.size → ¬ s.heap.size ≤ a := fun a h => Nat.not_le.mpr h
  obtain ⟨t1, e1, T1⟩ := va_Tof (tm := tFir9) (ty := .int) (N := 3) (f := fun j => .int (fxF j)) (A := fun q => s.heap.size ≤ q) (by decide) (hs _ fi_2.1) (va_eqt (hs _ fi_2.2.1)) (fun j hj => va_eqt (hs _ (fi_F j hj))) hA
  obtain ⟨t2, e2, T2⟩ := va_Tof (tm := tMax9) (ty := .int) (N := 3) (f := fun j => .int (fxM j)) (A := fun q => s.heap.size ≤ q) (by decide) (hs _ fi_2.2.2.1) (va_eqt (hs _ fi_2.2.2.2)) (fun j hj => va_eqt (hs _ (fi_M j hj))) hA
  obtain ⟨adK, adV, S1, S2⟩ := vk_Sof (N := 7) (tm := tStr9) (len := fxLen) (byt := fxByt) (A := fun q => s.heap.size ≤ q) (by decide +kernel) (fun i hi => hs _ (fi_ex i hi).1) (fun i hi => hs _ (fi_ex i hi).2.1) (fun i hi => hs _ (fi_ex i hi).2.2.1) (fun i hi => hs _ (fi_ex i hi).2.2.2) (fun i hi j hj => hs _ (fi_el i hi j hj)) (fun i j hi hj ne => by
    rcases Nat.lt_or_ge i j with q | q
    · exact Or.inl (hs _ (fi_ne i hi j hj q))
    · exact Or.inr (hs _ (fi_ne j hj i hi (by omega)))) hA
  have R : fxR (t1, t2, adK, adV) s := ⟨vk_R.of (hts _ ti_str.1) (S2 0 (by decide)), vk_R.of (hts _ ti_str.2.1) (S2 1 (by decide)), vk_R.of (hts _ ti_str.2.2.1) (S2 2 (by decide)), vk_R.of (hts _ ti_str.2.2.2.1) (S2 3 (by decide)), vk_R.of (hts _ ti_str.2.2.2.2.1) (S2 4 (by decide)), vk_R.of (hts _ ti_str.2.2.2.2.2.1) (S2 5 (by decide)), vk_R.of (hts _ ti_str.2.2.2.2.2.2) (S2 6 (by decide))⟩
  have E : fxE s := by
    refine ⟨⟨va_Nw.of rfl (hts _ ti_de.1), va_Nw.of rfl (hts _ ti_de.2.1), va_Nw.of rfl (hts _ ti_de.2.2)⟩, fun i => ?_, fun i j ne => ?_⟩
    · obtain ⟨k, k1, k2, k3⟩ := exN_3 i
      rw [k3]
      exact va_Nw.of rfl (hts _ (ti_ca k k1 k2))
    · obtain ⟨k, k1, k2, k3⟩ := exN_3 i
      obtain ⟨g, g1, g2, g3⟩ := exN_3 j
      rw [k3, g3] at ne ⊢
      exact va_Nc.of (hs _ (fi_nc k k1 k2 g g1 g2 (fun q => ne (by rw [q]))))
  exact ⟨(t1, t2, adK, adV), ⟨va_Zof (hts _ ti_lay.1) (hts _ ti_ini.1) e1 hA, va_Zof (hts _ ti_lay.2.1) (hts _ ti_ini.1) e2 hA, T1, T2⟩, ⟨vx_Zqof (hts _ ti_lay.2.2.2.2.1) (hts _ ti_ini.2.2.2) (hs _ fi_z.2.2.1) hA, vx_Zqof (hts _ ti_lay.2.2.2.2.2) (hts _ ti_ini.2.2.2) (hs _ fi_z.2.2.2) hA⟩, ⟨S1, R⟩, ⟨va_Zof (hts _ ti_lay.2.2.1) (hts _ ti_ini.2.1) (va_eqi (hs _ fi_z.1)) hA, va_Zqof (hts _ ti_lay.2.2.2.1) (hts _ ti_ini.2.2.1) (hs _ fi_z.2.1) hA, va_AO.of (hts _ ti_ao.1), E⟩⟩
theorem ar_p {args : Array Value} {s : State} {ty : FieldType} (h : (Cond.arrayClass ty).before args s = true) (hr : ∀ cA : ClassId, s.vm.findClass ("[" ++ ty.toString) = some cA → va_RA s cA ty) : ∃ cA : ClassId, ArrOfT s cA ty ∧ va_RA s cA ty := by
  obtain ⟨cA, kA, comp, h1, h2, h3⟩ := Cond.arrayClass_spec (args := args) (first := s) (o := none) (s := s) (idx := []) h
  exact ⟨cA, fun n z => ⟨(fun k q => by cases q), kA, h2, comp, h3⟩, hr cA h1⟩
theorem ar_o {args : Array Value} {s : State} {C : String} (h : (Cond.arrayOver (.object C)).before args s = true) : ∃ cA : ClassId, ArrOfT s cA (.object C) ∧ va_RA s cA (.object C) := by
  obtain ⟨comp, cA, kA, h1, -, h3, h4, h5⟩ := Cond.arrayOver_spec (args := args) (first := s) (o := none) (s := s) (idx := []) h
  exact ⟨cA, fun n z => ⟨(fun k q => by cases q), kA, h3, comp, h4⟩, kA, comp, h3, h4, h1, h5⟩
theorem ti_cls : Cond.instantiable RX0 3 ∈ lw_tbl ∧ Cond.instantiable RX1 1 ∈ lw_tbl ∧ Cond.instantiable RX2 3 ∈ lw_tbl ∧ Cond.instantiable RX5 9 ∈ lw_tbl ∧ Cond.instantiable RX6 7 ∈ lw_tbl ∧ Cond.instantiable RX7 6 ∈ lw_tbl ∧ Cond.instantiable RX8 6 ∈ lw_tbl := by decide +kernel
theorem start_gk {b : Nat} {s : State} (hts : ∀ w ∈ lw_tbl, w.before #[Value.ref b] s = true) : ∃ (D : va_G) (cy : Nat → ClassId), GK D cy s := by
  obtain ⟨c0, i0, k0⟩ := u_known (C := RX0) (T := TX0) (N := 3) hts (fun w h => (in_wsX00 w h).1) (hts _ ti_cls.1)
  obtain ⟨c1, i1, k1⟩ := u_known (C := RX1) (T := TX1) (N := 1) hts (fun w h => (in_wsX10 w h).1) (hts _ ti_cls.2.1)
  obtain ⟨c2, i2, k2⟩ := u_known (C := RX2) (T := TX2) (N := 3) hts (fun w h => (in_wsX20 w h).1) (hts _ ti_cls.2.2.1)
  obtain ⟨c3, i3, k3⟩ := u_known (C := RX5) (T := TX5) (N := 9) hts (fun w h => (in_wsX50 w h).1) (hts _ ti_cls.2.2.2.1)
  obtain ⟨c4, i4, k4⟩ := u_known (C := RX6) (T := TX6) (N := 7) hts (fun w h => (in_wsX60 w h).1) (hts _ ti_cls.2.2.2.2.1)
  obtain ⟨c5, i5, k5⟩ := u_known (C := RX7) (T := TX7) (N := 6) hts (fun w h => (in_wsX70 w h).1) (hts _ ti_cls.2.2.2.2.2.1)
  obtain ⟨c6, i6, k6⟩ := u_known (C := RX8) (T := TX8) (N := 6) hts (fun w h => (in_wsX80 w h).1) (hts _ ti_cls.2.2.2.2.2.2)
  obtain ⟨a0, p0, q0⟩ := ar_p (ty := .int) (hts _ ti_ao.2.1) (fun _ h => h)
  obtain ⟨a1, p1, q1⟩ := ar_p (ty := .boolean) (hts _ ti_ao.2.2.1) (fun _ h => h)
  obtain ⟨a2, p2, q2⟩ := ar_o (hts _ ti_ao.1)
  obtain ⟨a3, p3, q3⟩ := ar_p (ty := .byte) (hts _ ti_ao.2.2.2) (fun _ h => h)
  refine ⟨(fun c => [c0, c1, c2, c3, c4, c5, c6].getD c 0, fun c => [i0, i1, i2, i3, i4, i5, i6].getD c (fun _ => 0)), fun k => [a0, a1, a2, a3].getD k 0, ⟨fun c q hq => ?_, fun k q hq => ?_⟩, ⟨fun q hq => va_Nw.of rfl (hts _ (nwF_in q hq)), fun q hq => va_Nw.of rfl (hts _ (nwM_in q hq))⟩⟩
  · match c with
    | 0 => cases hq; exact k0
    | 1 => cases hq; exact k1
    | 2 => cases hq; exact k2
    | 3 => cases hq; exact k3
    | 4 => cases hq; exact k4
    | 5 => cases hq; exact k5
    | 6 => cases hq; exact k6
    | c + 7 => cases hq
  · match k with
    | 0 => cases hq; exact ⟨p0, q0⟩
    | 1 => cases hq; exact ⟨p1, q1⟩
    | 2 => cases hq; exact ⟨p2, q2⟩
    | 3 => cases hq; exact ⟨p3, q3⟩
    | k + 4 => cases hq
