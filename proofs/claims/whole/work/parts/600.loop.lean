/-! the law's loop -/
theorem i31_and (x : Int32) : ∃ k : Nat, k ≤ 31 ∧ (x &&& 31).toInt = k := by
  have b : (x.toBitVec &&& (31 : BitVec 32)).toNat ≤ 31 := by
    rw [BitVec.toNat_and]
    exact Nat.and_le_right
  refine ⟨(x.toBitVec &&& (31 : BitVec 32)).toNat, b, ?_⟩
  show (x.toBitVec &&& (31 : BitVec 32)).toInt = _
  exact BitVec.toInt_eq_toNat_of_lt (by omega)
theorem gt_L {n L : Nat} (hn : n ≤ 3000) (hL : L ≤ 2560) : Int32.ofNat L - 5 < nI n ↔ L < n + 5 := by
  have a : (Int32.ofNat L).toInt = L := nI_toInt (n := L) (by omega)
  have b : (nI n).toInt = n := nI_toInt (by omega)
  have e5 : (5 : Int32).toInt = 5 := by decide
  rw [i32_lt, i32_sub (by rw [a, e5]; omega) (by rw [a, e5]; omega), a, b, e5]
  omega
theorem n_5 (n : Nat) : nI n + Int32.ofInt 5 = nI (n + 5) := by
  rw [show Int32.ofInt 5 = nI 5 by decide +kernel, nI_add]
theorem kl_rot {ls : Array Slot} {nL : Nat} {a : Nat × Value} {lv : List (Nat × Value)} (h : lv_has ls nL (a :: lv)) : lv_has ls nL (lv ++ [a]) := ⟨h.1, h.2.1, fun q hq => h.2.2 q ((List.perm_append_singleton a lv).mem_iff.mp hq)⟩
set_option maxRecDepth 20000 in
theorem w_loop {p : Program} {l : Launch} {e : Env} {s : State} {m : MethodId} {below : List Frame} {meth : Method} {c : Code} {b L : Nat} {xs : Nat → Int32} {D : va_G} {cy : Nat → ClassId} {t : FxA} {A : Nat → Prop} {Q : State → Prop} {xa sa sb tr na : Nat → Nat} {ka : Nat → Nat → Nat} {a0 a1 a2 a3 a4 a5 a6 oa : Nat} (C0 : LC p l s m meth c b L xs D cy t A) (hL : L ≤ 2560)
    (fin : ∀ (H : Heap) (locs : List Loc) (ls : Array Slot) (cells slots : Nat), cells ≤ 601024 → slots ≤ 7293034 → va_S A s.heap H locs → Wx p l e room_1 s m #[Value.ref b] below meth c H locs cells slots Q (F0 m 2170 ls [])) :
    ∀ (j n : Nat) (T : Int) (cells slots : Nat) (H : Heap) (locs : List Loc) (ls : Array Slot) (z : SpT) (mo : MoT) (f : Nat → Int64), L < n + 5 + 5 * j → n ≤ L + 5 → cells + j ≤ 601024 → slots + 6 * j ≤ 7293034 → 100000 ≤ T → T + 99 * j ≤ 1000000 →
      lv_has ls 7 [(0, .ref b), (1, .ref (xa 0)), (2, .ref a0), (3, .ref oa), (4, .int (nI n))] → PR T z mo → va_P D vwCl (wO cy oa f (wSp cy xa sa sb tr na ka z ++ wMo cy a0 a1 a2 a3 a4 a5 a6 mo)) H → va_D A (wO cy oa f (wSp cy xa sa sb tr na ka z ++ wMo cy a0 a1 a2 a3 a4 a5 a6 mo)) → va_S A s.heap H locs → Wx p l e room_1 s m #[Value.ref b] below meth c H locs cells slots Q (F0 m 23 ls []) := by
  intro j
  induction j with
  | zero =>
    intro n T cells slots H locs ls z mo f h1 h2 h3 h4 h5 h6 hl h hP hD hS
    obtain ⟨hx, hb, hCF, hG, hF, hX, hbl, hbA, hA, hl0, hown⟩ := C0
    refine lv_iload hx hb dL_law_23 (lv_at hl 4 rfl) ?_
    refine lv_aload_n hx hb dL_law_25 rfl (lv_at hl 0 rfl) ?_
    refine va_slen hx hb hX hbl hbA hS dL_law_26 ?_
    refine lv_iconst (v := (5 : Int32)) hx hb dL_law_27 (by decide) ?_
    refine lv_isub hx hb dL_law_28 ?_
    refine lv_icmp_gt (tgt := 2170) hx hb dL_law_29 (by decide) (fun _ => ?_) (fun q => absurd ((gt_L (by omega) hL).mpr (by omega)) q)
    exact fin _ _ _ _ _ (by omega) (by omega) hS
  | succ j ih =>
    intro n T cells slots H locs ls z mo f h1 h2 h3 h4 h5 h6 hl h hP hD hS
    have C1 := C0
    obtain ⟨hx, hb, hCF, hG, hF, hX, hbl, hbA, hA, hl0, hown⟩ := C0
    refine lv_iload hx hb dL_law_23 (lv_at hl 4 rfl) ?_
    refine lv_aload_n hx hb dL_law_25 rfl (lv_at hl 0 rfl) ?_
    refine va_slen hx hb hX hbl hbA hS dL_law_26 ?_
    refine lv_iconst (v := (5 : Int32)) hx hb dL_law_27 (by decide) ?_
    refine lv_isub hx hb dL_law_28 ?_
    refine lv_icmp_gt (tgt := 2170) hx hb dL_law_29 (by decide) (fun _ => fin _ _ _ _ _ (by omega) (by omega) hS) (fun q => ?_)
    have hn : n + 5 ≤ L := by
      refine Nat.le_of_not_lt (fun w => q ((gt_L (by omega) hL).mpr w))
    clear q
    refine lv_aload_n hx hb dL_law_32 rfl (lv_at hl 0 rfl) ?_
    refine lv_iload hx hb dL_law_33 (lv_at hl 4 rfl) ?_
    refine va_sld hx hb hX hbl hbA hS (nI_in (by omega) (by omega)) dL_law_35 ?_
    refine lv_bipush (v := (31 : Int32)) hx hb dL_law_36 (by decide) ?_
    refine lv_iand hx hb dL_law_38 ?_
    have hc : cells + 1 ≤ 601024 := by omega
    have hs : slots + 6 ≤ 7293034 := by omega
    have hT : T ≤ 1000000 := by omega
    have nx : ∀ (ls : Array Slot) (H : Heap) (locs : List Loc) (z : SpT) (mo : MoT) (f : Nat → Int64), lv_has ls 7 [(0, .ref b), (1, .ref (xa 0)), (2, .ref a0), (3, .ref oa), (4, .int (nI n))] → PR (T + 99) z mo → va_P D vwCl (wO cy oa f (wSp cy xa sa sb tr na ka z ++ wMo cy a0 a1 a2 a3 a4 a5 a6 mo)) H → va_D A (wO cy oa f (wSp cy xa sa sb tr na ka z ++ wMo cy a0 a1 a2 a3 a4 a5 a6 mo)) → va_S A s.heap H locs → Wx p l e room_1 s m #[Value.ref b] below meth c H locs (cells + 1) (slots + 6) Q (F0 m 2164 ls []) := by
      intro ls H locs z mo f hl h hP hD hS
      refine lv_iinc (v := nI (n + 5)) (lv' := (4, .int (nI (n + 5))) :: [(0, .ref b), (1, .ref (xa 0)), (2, .ref a0), (3, .ref oa)]) hx hb dL_law_2164 hl (k := 4) rfl (n_5 n) (by decide) rfl (fun ls hl => ?_)
      refine lv_goto (tgt := 23) hx hb dL_law_2167 (by decide) ?_
      exact ih (n + 5) (T + 99) (cells + 1) (slots + 6) H locs ls z mo f (by omega) (by omega) (by omega) (by omega) (by omega) (by omega) (kl_rot hl) h hP hD hS
    obtain ⟨k, k1, k2⟩ := i31_and (xs (nI n).toNatClampNeg)
    match k, k1, k2 with
    | 0, _, k2 =>
      refine lv_tableIn (off := 141) (tgt := 180) hx hb dL_law_39 (by rw [k2]; decide) (by rw [k2]; decide) (by rw [k2]; rfl) (by decide) ?_
      exact w_append C1 hn hL hc hs h5 hT hl h hP hD hS nx
    | 1, _, k2 =>
      refine lv_tableIn (off := 197) (tgt := 236) hx hb dL_law_39 (by rw [k2]; decide) (by rw [k2]; decide) (by rw [k2]; rfl) (by decide) ?_
      exact w_clearText C1 hn hL hc hs h5 hT hl h hP hD hS nx
    | 2, _, k2 =>
      refine lv_tableIn (off := 210) (tgt := 249) hx hb dL_law_39 (by rw [k2]; decide) (by rw [k2]; decide) (by rw [k2]; rfl) (by decide) ?_
      exact w_errorPosition C1 hn hL hc hs h5 hT hl h hP hD hS nx
    | 3, _, k2 =>
      refine lv_tableIn (off := 223) (tgt := 262) hx hb dL_law_39 (by rw [k2]; decide) (by rw [k2]; decide) (by rw [k2]; rfl) (by decide) ?_
      exact w_load C1 hn hL hc hs h5 hT hl h hP hD hS nx
    | 4, _, k2 =>
      refine lv_tableIn (off := 267) (tgt := 306) hx hb dL_law_39 (by rw [k2]; decide) (by rw [k2]; decide) (by rw [k2]; rfl) (by decide) ?_
      exact w_about C1 hn hL hc hs h5 hT hl h hP hD hS nx
    | 5, _, k2 =>
      refine lv_tableIn (off := 323) (tgt := 362) hx hb dL_law_39 (by rw [k2]; decide) (by rw [k2]; decide) (by rw [k2]; rfl) (by decide) ?_
      exact w_unit C1 hn hL hc hs h5 hT hl h hP hD hS nx
    | 6, _, k2 =>
      refine lv_tableIn (off := 391) (tgt := 430) hx hb dL_law_39 (by rw [k2]; decide) (by rw [k2]; decide) (by rw [k2]; rfl) (by decide) ?_
      exact w_holder C1 hn hL hc hs h5 hT hl h hP hD hS nx
    | 7, _, k2 =>
      refine lv_tableIn (off := 459) (tgt := 498) hx hb dL_law_39 (by rw [k2]; decide) (by rw [k2]; decide) (by rw [k2]; rfl) (by decide) ?_
      exact w_owed C1 hn hL hc hs h5 hT hl h hP hD hS nx
    | 8, _, k2 =>
      refine lv_tableIn (off := 551) (tgt := 590) hx hb dL_law_39 (by rw [k2]; decide) (by rw [k2]; decide) (by rw [k2]; rfl) (by decide) ?_
      exact w_core C1 hn hL hc hs h5 hT hl h hP hD hS nx
    | 9, _, k2 =>
      refine lv_tableIn (off := 631) (tgt := 670) hx hb dL_law_39 (by rw [k2]; decide) (by rw [k2]; decide) (by rw [k2]; rfl) (by decide) ?_
      exact w_setting C1 hn hL hc hs h5 hT hl h hP hD hS nx
    | 10, _, k2 =>
      refine lv_tableIn (off := 687) (tgt := 726) hx hb dL_law_39 (by rw [k2]; decide) (by rw [k2]; decide) (by rw [k2]; rfl) (by decide) ?_
      exact w_come C1 hn hL hc hs h5 hT hl h hP hD hS nx
    | 11, _, k2 =>
      refine lv_tableIn (off := 767) (tgt := 806) hx hb dL_law_39 (by rw [k2]; decide) (by rw [k2]; decide) (by rw [k2]; rfl) (by decide) ?_
      exact w_lend C1 hn hL hc hs h5 hT hl h hP hD hS nx
    | 12, _, k2 =>
      refine lv_tableIn (off := 847) (tgt := 886) hx hb dL_law_39 (by rw [k2]; decide) (by rw [k2]; decide) (by rw [k2]; rfl) (by decide) ?_
      exact w_bring C1 hn hL hc hs h5 hT hl h hP hD hS nx
    | 13, _, k2 =>
      refine lv_tableIn (off := 903) (tgt := 942) hx hb dL_law_39 (by rw [k2]; decide) (by rw [k2]; decide) (by rw [k2]; rfl) (by decide) ?_
      exact w_exchange C1 hn hL hc hs h5 hT hl h hP hD hS nx
    | 14, _, k2 =>
      refine lv_tableIn (off := 971) (tgt := 1010) hx hb dL_law_39 (by rw [k2]; decide) (by rw [k2]; decide) (by rw [k2]; rfl) (by decide) ?_
      exact w_advance C1 hn hL hc hs h5 hT hl h hP hD hS nx
    | 15, _, k2 =>
      refine lv_tableIn (off := 1051) (tgt := 1090) hx hb dL_law_39 (by rw [k2]; decide) (by rw [k2]; decide) (by rw [k2]; rfl) (by decide) ?_
      exact w_deliver C1 hn hL hc hs h5 hT hl h hP hD hS nx
    | 16, _, k2 =>
      refine lv_tableIn (off := 1107) (tgt := 1146) hx hb dL_law_39 (by rw [k2]; decide) (by rw [k2]; decide) (by rw [k2]; rfl) (by decide) ?_
      exact w_take C1 hn hL hc hs h5 hT hl h hP hD hS nx
    | 17, _, k2 =>
      refine lv_tableIn (off := 1187) (tgt := 1226) hx hb dL_law_39 (by rw [k2]; decide) (by rw [k2]; decide) (by rw [k2]; rfl) (by decide) ?_
      exact w_settle C1 hn hL hc hs h5 hT hl h hP hD hS nx
    | 18, _, k2 =>
      refine lv_tableIn (off := 1279) (tgt := 1318) hx hb dL_law_39 (by rw [k2]; decide) (by rw [k2]; decide) (by rw [k2]; rfl) (by decide) ?_
      exact w_buy C1 hn hL hc hs h5 hT hl h hP hD hS nx
    | 19, _, k2 =>
      refine lv_tableIn (off := 1347) (tgt := 1386) hx hb dL_law_39 (by rw [k2]; decide) (by rw [k2]; decide) (by rw [k2]; rfl) (by decide) ?_
      exact w_days C1 hn hL hc hs h5 hT hl h hP hD hS nx
    | 20, _, k2 =>
      refine lv_tableIn (off := 1403) (tgt := 1442) hx hb dL_law_39 (by rw [k2]; decide) (by rw [k2]; decide) (by rw [k2]; rfl) (by decide) ?_
      exact w_set C1 hn hL hc hs h5 hT hl h hP hD hS nx
    | 21, _, k2 =>
      refine lv_tableIn (off := 1471) (tgt := 1510) hx hb dL_law_39 (by rw [k2]; decide) (by rw [k2]; decide) (by rw [k2]; rfl) (by decide) ?_
      exact w_undo C1 hn hL hc hs h5 hT hl h hP hD hS nx
    | 22, _, k2 =>
      refine lv_tableIn (off := 1515) (tgt := 1554) hx hb dL_law_39 (by rw [k2]; decide) (by rw [k2]; decide) (by rw [k2]; rfl) (by decide) ?_
      exact w_complete C1 hn hL hc hs h5 hT hl h hP hD hS nx
    | 23, _, k2 =>
      refine lv_tableIn (off := 1583) (tgt := 1622) hx hb dL_law_39 (by rw [k2]; decide) (by rw [k2]; decide) (by rw [k2]; rfl) (by decide) ?_
      exact w_takings C1 hn hL hc hs h5 hT hl h hP hD hS nx
    | 24, _, k2 =>
      refine lv_tableIn (off := 1651) (tgt := 1690) hx hb dL_law_39 (by rw [k2]; decide) (by rw [k2]; decide) (by rw [k2]; rfl) (by decide) ?_
      exact w_bill C1 hn hL hc hs h5 hT hl h hP hD hS nx
    | 25, _, k2 =>
      refine lv_tableIn (off := 1719) (tgt := 1758) hx hb dL_law_39 (by rw [k2]; decide) (by rw [k2]; decide) (by rw [k2]; rfl) (by decide) ?_
      exact w_firstDue C1 hn hL hc hs h5 hT hl h hP hD hS nx
    | 26, _, k2 =>
      refine lv_tableIn (off := 1732) (tgt := 1771) hx hb dL_law_39 (by rw [k2]; decide) (by rw [k2]; decide) (by rw [k2]; rfl) (by decide) ?_
      exact w_cheapest C1 hn hL hc hs h5 hT hl h hP hD hS nx
    | 27, _, k2 =>
      refine lv_tableIn (off := 1800) (tgt := 1839) hx hb dL_law_39 (by rw [k2]; decide) (by rw [k2]; decide) (by rw [k2]; rfl) (by decide) ?_
      exact w_inDebt C1 hn hL hc hs h5 hT hl h hP hD hS nx
    | 28, _, k2 =>
      refine lv_tableIn (off := 1813) (tgt := 1852) hx hb dL_law_39 (by rw [k2]; decide) (by rw [k2]; decide) (by rw [k2]; rfl) (by decide) ?_
      exact w_runScript C1 hn hL hc hs h5 hT hl h hP hD hS nx
    | 29, _, k2 =>
      refine lv_tableIn (off := 1913) (tgt := 1952) hx hb dL_law_39 (by rw [k2]; decide) (by rw [k2]; decide) (by rw [k2]; rfl) (by decide) ?_
      exact w_simulate C1 hn hL hc hs h5 hT hl h hP hD hS nx
    | 30, _, k2 =>
      refine lv_tableIn (off := 2013) (tgt := 2052) hx hb dL_law_39 (by rw [k2]; decide) (by rw [k2]; decide) (by rw [k2]; rfl) (by decide) ?_
      exact w_save C1 hn hL hc hs h5 hT hl h hP hD hS nx
    | 31, _, k2 =>
      refine lv_tableIn (off := 2069) (tgt := 2108) hx hb dL_law_39 (by rw [k2]; decide) (by rw [k2]; decide) (by rw [k2]; rfl) (by decide) ?_
      exact w_restore C1 hn hL hc hs h5 hT hl h hP hD hS nx
    | k + 32, k1, _ => exact absurd k1 (by omega)
