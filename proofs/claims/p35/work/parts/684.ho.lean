/-! p35: holds: to which unit a part goes -/
set_option maxRecDepth 20000 in
theorem w_mt {p : Program} {l : Launch} {e : Env} {s : State} {m : MethodId} {below : List Frame} {meth : Method} {c : Code} {D : va_G} {cy : Nat → ClassId} {t : FxA} {A : Nat → Prop} {Q : State → Prop} {xa sa sb tr na : Nat → Nat} {ka : Nat → Nat → Nat} {x : Int32} (C0 : LR p l s m meth c ([.ref (xa 0), .int x] : List Value).toArray cL_holds 28 wc_holds (some .boolean) D cy t A) {z : SpT} {k9 md : Nat} {tk can kd h n9 : Int32} {i : Nat} {m9 q9 b1 b2 d1 d2 mv : Int32} (hm : (mv = 1 ∧ d1 = nI i ∧ d2 = m9) ∨ (mv = 0 ∧ d1 = b1 ∧ d2 = b2)) {cells slots : Nat} (hc : cells + 0 ≤ 3000) (hs : slots + 0 ≤ 18000) {H : Heap} {locs : List Loc} {ls : Array Slot} (hl : lv_has ls 28 [(23, .int m9), (22, .int q9), (21, .int (nI i)), (20, .int b2), (19, .int b1), (18, .int (nI k9)), (17, .int (nI md)), (15, .int tk), (14, .int can), (13, .int kd), (12, .int h), (11, .int (1 : Int32)), (2, .int n9), (0, .ref (xa 0)), (1, .int x)]) (hP : va_P D vwCl (wSp cy xa sa sb tr na ka z) H) (hD : va_D A (wSp cy xa sa sb tr na ka z)) (hS : va_S A s.heap H locs) (kk : ∀ (ls : Array Slot) (H : Heap) (locs : List Loc), lv_has ls 28 [(21, .int (nI (i + 1))), (20, .int d2), (19, .int d1), (18, .int (nI k9)), (17, .int (nI md)), (15, .int tk), (14, .int can), (13, .int kd), (12, .int h), (11, .int (1 : Int32)), (2, .int n9), (0, .ref (xa 0)), (1, .int x)] → va_P D vwCl (wSp cy xa sa sb tr na ka z) H → va_D A (wSp cy xa sa sb tr na ka z) → va_S A s.heap H locs → @Wx p l e ({ frames := 10, cells := 3000, slots := 18000, locals := 300 } : Room) s m ([.ref (xa 0), .int x] : List Value).toArray below meth c H locs (cells + 0) (slots + 0) Q (F0 m 588 ls [])) : @Wx p l e ({ frames := 10, cells := 3000, slots := 18000, locals := 300 } : Room) s m ([.ref (xa 0), .int x] : List Value).toArray below meth c H locs cells slots Q (F0 m 672 ls [.int mv]) := by
  obtain ⟨hx, hb, hr, hlocks, hts, hown, hCF, hG, hF, hA, hl0⟩ := C0
  rcases hm with ⟨rfl, e1, e2⟩ | ⟨rfl, e1, e2⟩
  · rw [e1, e2] at kk
    refine lv_istore (lv' := [(24, .int (1 : Int32)), (23, .int m9), (22, .int q9), (21, .int (nI i)), (20, .int b2), (19, .int b1), (18, .int (nI k9)), (17, .int (nI md)), (15, .int tk), (14, .int can), (13, .int kd), (12, .int h), (11, .int (1 : Int32)), (2, .int n9), (0, .ref (xa 0)), (1, .int x)]) hx hb dL_holds_672 hl (by decide) rfl (fun ls hl => ?_)
    refine lv_iload hx hb dL_holds_674 (lv_at hl 0 rfl) ?_
    refine lv_if_eq (tgt := 684) hx hb dL_holds_676 (by decide) (fun q => absurd q (by decide)) (fun _ => ?_)
    refine lv_iload hx hb dL_holds_679 (lv_at hl 3 rfl) ?_
    refine lv_goto (tgt := 686) hx hb dL_holds_681 (by decide) ?_
    refine lv_istore (lv' := [(19, .int (nI i)), (24, .int (1 : Int32)), (23, .int m9), (22, .int q9), (21, .int (nI i)), (20, .int b2), (18, .int (nI k9)), (17, .int (nI md)), (15, .int tk), (14, .int can), (13, .int kd), (12, .int h), (11, .int (1 : Int32)), (2, .int n9), (0, .ref (xa 0)), (1, .int x)]) hx hb dL_holds_686 hl (by decide) rfl (fun ls hl => ?_)
    refine lv_iload hx hb dL_holds_688 (lv_at hl 1 rfl) ?_
    refine lv_if_eq (tgt := 698) hx hb dL_holds_690 (by decide) (fun q => absurd q (by decide)) (fun _ => ?_)
    refine lv_iload hx hb dL_holds_693 (lv_at hl 2 rfl) ?_
    refine lv_goto (tgt := 700) hx hb dL_holds_695 (by decide) ?_
    refine lv_istore (lv' := [(20, .int m9), (19, .int (nI i)), (24, .int (1 : Int32)), (23, .int m9), (22, .int q9), (21, .int (nI i)), (18, .int (nI k9)), (17, .int (nI md)), (15, .int tk), (14, .int can), (13, .int kd), (12, .int h), (11, .int (1 : Int32)), (2, .int n9), (0, .ref (xa 0)), (1, .int x)]) hx hb dL_holds_700 hl (by decide) rfl (fun ls hl => ?_)
    refine lv_iinc (v := ((nI i) + (1 : Int32))) (lv' := [(21, .int ((nI i) + (1 : Int32))), (20, .int m9), (19, .int (nI i)), (24, .int (1 : Int32)), (23, .int m9), (22, .int q9), (18, .int (nI k9)), (17, .int (nI md)), (15, .int tk), (14, .int can), (13, .int kd), (12, .int h), (11, .int (1 : Int32)), (2, .int n9), (0, .ref (xa 0)), (1, .int x)]) hx hb dL_holds_702 hl (k := 5) rfl rfl (by decide) rfl (fun ls hl => ?_)
    refine lv_goto (tgt := 588) hx hb dL_holds_705 (by decide) ?_
    have hl : lv_has ls 28 [(21, .int (nI i + (1 : Int32))), (20, .int m9), (19, .int (nI i)), (18, .int (nI k9)), (17, .int (nI md)), (15, .int tk), (14, .int can), (13, .int kd), (12, .int h), (11, .int (1 : Int32)), (2, .int n9), (0, .ref (xa 0)), (1, .int x)] := lv_sub hl [0, 1, 2, 6, 7, 8, 9, 10, 11, 12, 13, 14, 15] rfl
    rw [nI_1] at hl
    refine W.widen (k := cells + 0) (n := slots + 0) (by omega) (by omega) ?_
    exact kk _ _ _ hl hP hD hS
  · rw [e1, e2] at kk
    refine lv_istore (lv' := [(24, .int (0 : Int32)), (23, .int m9), (22, .int q9), (21, .int (nI i)), (20, .int b2), (19, .int b1), (18, .int (nI k9)), (17, .int (nI md)), (15, .int tk), (14, .int can), (13, .int kd), (12, .int h), (11, .int (1 : Int32)), (2, .int n9), (0, .ref (xa 0)), (1, .int x)]) hx hb dL_holds_672 hl (by decide) rfl (fun ls hl => ?_)
    refine lv_iload hx hb dL_holds_674 (lv_at hl 0 rfl) ?_
    refine lv_if_eq (tgt := 684) hx hb dL_holds_676 (by decide) (fun _ => ?_) (fun q => absurd rfl q)
    refine lv_iload hx hb dL_holds_684 (lv_at hl 5 rfl) ?_
    refine lv_istore (lv' := [(19, .int b1), (24, .int (0 : Int32)), (23, .int m9), (22, .int q9), (21, .int (nI i)), (20, .int b2), (18, .int (nI k9)), (17, .int (nI md)), (15, .int tk), (14, .int can), (13, .int kd), (12, .int h), (11, .int (1 : Int32)), (2, .int n9), (0, .ref (xa 0)), (1, .int x)]) hx hb dL_holds_686 hl (by decide) rfl (fun ls hl => ?_)
    refine lv_iload hx hb dL_holds_688 (lv_at hl 1 rfl) ?_
    refine lv_if_eq (tgt := 698) hx hb dL_holds_690 (by decide) (fun _ => ?_) (fun q => absurd rfl q)
    refine lv_iload hx hb dL_holds_698 (lv_at hl 5 rfl) ?_
    refine lv_istore (lv' := [(20, .int b2), (19, .int b1), (24, .int (0 : Int32)), (23, .int m9), (22, .int q9), (21, .int (nI i)), (18, .int (nI k9)), (17, .int (nI md)), (15, .int tk), (14, .int can), (13, .int kd), (12, .int h), (11, .int (1 : Int32)), (2, .int n9), (0, .ref (xa 0)), (1, .int x)]) hx hb dL_holds_700 hl (by decide) rfl (fun ls hl => ?_)
    refine lv_iinc (v := ((nI i) + (1 : Int32))) (lv' := [(21, .int ((nI i) + (1 : Int32))), (20, .int b2), (19, .int b1), (24, .int (0 : Int32)), (23, .int m9), (22, .int q9), (18, .int (nI k9)), (17, .int (nI md)), (15, .int tk), (14, .int can), (13, .int kd), (12, .int h), (11, .int (1 : Int32)), (2, .int n9), (0, .ref (xa 0)), (1, .int x)]) hx hb dL_holds_702 hl (k := 5) rfl rfl (by decide) rfl (fun ls hl => ?_)
    refine lv_goto (tgt := 588) hx hb dL_holds_705 (by decide) ?_
    have hl : lv_has ls 28 [(21, .int (nI i + (1 : Int32))), (20, .int b2), (19, .int b1), (18, .int (nI k9)), (17, .int (nI md)), (15, .int tk), (14, .int can), (13, .int kd), (12, .int h), (11, .int (1 : Int32)), (2, .int n9), (0, .ref (xa 0)), (1, .int x)] := lv_sub hl [0, 1, 2, 6, 7, 8, 9, 10, 11, 12, 13, 14, 15] rfl
    rw [nI_1] at hl
    refine W.widen (k := cells + 0) (n := slots + 0) (by omega) (by omega) ?_
    exact kk _ _ _ hl hP hD hS
set_option maxRecDepth 20000 in
theorem w_to {p : Program} {l : Launch} {e : Env} {s : State} {m : MethodId} {below : List Frame} {meth : Method} {c : Code} {D : va_G} {cy : Nat → ClassId} {t : FxA} {A : Nat → Prop} {Q : State → Prop} {xa sa sb tr na : Nat → Nat} {ka : Nat → Nat → Nat} {x : Int32} (C0 : LR p l s m meth c ([.ref (xa 0), .int x] : List Value).toArray cL_holds 28 wc_holds (some .boolean) D cy t A) {z : SpT} (oz : OKz z) {k9 md : Nat} {tk can kd h n9 : Int32} (hn9 : n9 = uN (sU (pN z))) : ∀ (f i : Nat) (b1 b2 : Int32), i + f = uM (sU (pN z)) → ∀ {cells slots : Nat} (hc : cells + 3 * (f + 1) ≤ 3000) (hs : slots + 18 * (f + 1) ≤ 18000) {H : Heap} {locs : List Loc} {ls : Array Slot} (hl : lv_has ls 28 [(21, .int (nI i)), (20, .int b2), (19, .int b1), (18, .int (nI k9)), (17, .int (nI md)), (15, .int tk), (14, .int can), (13, .int kd), (12, .int h), (11, .int (1 : Int32)), (2, .int n9), (0, .ref (xa 0)), (1, .int x)]) (hP : va_P D vwCl (wSp cy xa sa sb tr na ka z) H) (hD : va_D A (wSp cy xa sa sb tr na ka z)) (hS : va_S A s.heap H locs) (kk : ∀ (ls : Array Slot) (H : Heap) (locs : List Loc), lv_has ls 28 [(20, .int ((toL (sU (pN z)) h kd f i (b1, b2)).2)), (19, .int ((toL (sU (pN z)) h kd f i (b1, b2)).1)), (18, .int (nI k9)), (17, .int (nI md)), (15, .int tk), (14, .int can), (13, .int kd), (12, .int h), (11, .int (1 : Int32)), (2, .int n9), (0, .ref (xa 0)), (1, .int x)] → va_P D vwCl (wSp cy xa sa sb tr na ka z) H → va_D A (wSp cy xa sa sb tr na ka z) → va_S A s.heap H locs → @Wx p l e ({ frames := 10, cells := 3000, slots := 18000, locals := 300 } : Room) s m ([.ref (xa 0), .int x] : List Value).toArray below meth c H locs (cells + 3 * (f + 1)) (slots + 18 * (f + 1)) Q (F0 m 708 ls [])), @Wx p l e ({ frames := 10, cells := 3000, slots := 18000, locals := 300 } : Room) s m ([.ref (xa 0), .int x] : List Value).toArray below meth c H locs cells slots Q (F0 m 588 ls []) := by
  have C1 := C0
  obtain ⟨hx, hb, hr, hlocks, hts, hown, hCF, hG, hF, hA, hl0⟩ := C0
  obtain ⟨m16, mN9⟩ := um16 oz.st.1
  intro f
  induction f with
  | zero =>
    intro i b1 b2 hif cells slots hc hs H locs ls hl hP hD hS kk
    refine lv_iload hx hb dL_holds_588 (lv_at hl 0 rfl) ?_
    refine lv_iload_n hx hb dL_holds_590 rfl (lv_at hl 10 rfl) ?_
    refine lv_icmp_ge (tgt := 708) hx hb dL_holds_591 (by decide) (fun _ => ?_) (fun q => absurd (by rw [i32_le, hn9, (nI_n (i := i) (by omega)).1]; omega) q)
    have hl : lv_has ls 28 [(20, .int b2), (19, .int b1), (18, .int (nI k9)), (17, .int (nI md)), (15, .int tk), (14, .int can), (13, .int kd), (12, .int h), (11, .int (1 : Int32)), (2, .int n9), (0, .ref (xa 0)), (1, .int x)] := lv_sub hl [1, 2, 3, 4, 5, 6, 7, 8, 9, 10, 11, 12] rfl
    refine W.widen (k := cells + 3 * (0 + 1)) (n := slots + 18 * (0 + 1)) (by omega) (by omega) ?_
    exact kk _ _ _ hl hP hD hS
  | succ f ih =>
    intro i b1 b2 hif cells slots hc hs H locs ls hl hP hD hS kk
    refine lv_iload hx hb dL_holds_588 (lv_at hl 0 rfl) ?_
    refine lv_iload_n hx hb dL_holds_590 rfl (lv_at hl 10 rfl) ?_
    refine lv_icmp_ge (tgt := 708) hx hb dL_holds_591 (by decide) (fun q => absurd q (by rw [i32_le, hn9, (nI_n (i := i) (by omega)).1]; omega)) (fun _ => ?_)
    have hi : i < uM (sU (pN z)) := by omega
    refine lv_aload_n hx hb dL_holds_594 rfl (lv_at hl 11 rfl) ?_
    refine lv_iconst (v := (3 : Int32)) hx hb dL_holds_595 (by decide) ?_
    refine lv_iload hx hb dL_holds_596 (lv_at hl 0 rfl) ?_
    refine lv_iconst (v := (3 : Int32)) hx hb dL_holds_598 (by decide) ?_
    refine lv_iconst (v := (0 : Int32)) hx hb dL_holds_599 (by decide) ?_
    refine hwS (A0 := A) (As := [.ref (xa 0), .int (3 : Int32), .int (nI i), .int (3 : Int32), .int (0 : Int32)]) (rest := []) (W1 := (wSp cy xa sa sb tr na ka z)) (W2 := (wSp cy xa sa sb tr na ka z)) (cu_3 l hl0 D cy t xa sa sb tr na ka oz (i := i) hi) hCF gw_L_call.more rfl hq_L_call ⟨Nat.le_of_ble_eq_true rfl, Nat.le_of_ble_eq_true rfl⟩ hG hF hP hD hS hA rfl rfl hl.1 rfl (Nat.le_of_ble_eq_true rfl) dL_holds_600 ⟨by show _ ≤ 3000; omega, by show _ ≤ 18000; omega⟩ (fun H locs hP hD hS => ?_)
    refine lv_istore (lv' := [(22, .int (uQ (sU (pN z)) i)), (21, .int (nI i)), (20, .int b2), (19, .int b1), (18, .int (nI k9)), (17, .int (nI md)), (15, .int tk), (14, .int can), (13, .int kd), (12, .int h), (11, .int (1 : Int32)), (2, .int n9), (0, .ref (xa 0)), (1, .int x)]) hx hb dL_holds_603 hl (by decide) rfl (fun ls hl => ?_)
    refine lv_iconst (v := (3 : Int32)) hx hb dL_holds_605 (by decide) ?_
    refine lv_iload hx hb dL_holds_606 (lv_at hl 0 rfl) ?_
    refine lv_iconst (v := (1 : Int32)) hx hb dL_holds_608 (by decide) ?_
    refine lv_iand hx hb dL_holds_609 ?_
    refine lv_isub hx hb dL_holds_610 ?_
    refine lv_iload hx hb dL_holds_611 (lv_at hl 0 rfl) ?_
    refine lv_iconst (v := (1 : Int32)) hx hb dL_holds_613 (by decide) ?_
    refine lv_ishr hx hb dL_holds_614 ?_
    refine lv_iconst (v := (1 : Int32)) hx hb dL_holds_615 (by decide) ?_
    refine lv_iand hx hb dL_holds_616 ?_
    refine lv_isub hx hb dL_holds_617 ?_
    refine lv_iload hx hb dL_holds_618 (lv_at hl 0 rfl) ?_
    refine lv_iconst (v := (2 : Int32)) hx hb dL_holds_620 (by decide) ?_
    refine lv_ishr hx hb dL_holds_621 ?_
    refine lv_iconst (v := (1 : Int32)) hx hb dL_holds_622 (by decide) ?_
    refine lv_iand hx hb dL_holds_623 ?_
    refine lv_isub hx hb dL_holds_624 ?_
    refine lv_istore (lv' := [(23, .int (mg (uQ (sU (pN z)) i))), (22, .int (uQ (sU (pN z)) i)), (21, .int (nI i)), (20, .int b2), (19, .int b1), (18, .int (nI k9)), (17, .int (nI md)), (15, .int tk), (14, .int can), (13, .int kd), (12, .int h), (11, .int (1 : Int32)), (2, .int n9), (0, .ref (xa 0)), (1, .int x)]) hx hb dL_holds_625 hl (by decide) rfl (fun ls hl => ?_)
    refine lv_aload_n hx hb dL_holds_627 rfl (lv_at hl 13 rfl) ?_
    refine lv_iconst (v := (3 : Int32)) hx hb dL_holds_628 (by decide) ?_
    refine lv_iload hx hb dL_holds_629 (lv_at hl 2 rfl) ?_
    refine lv_iconst (v := (0 : Int32)) hx hb dL_holds_631 (by decide) ?_
    refine lv_iconst (v := (0 : Int32)) hx hb dL_holds_632 (by decide) ?_
    refine hwS (A0 := A) (As := [.ref (xa 0), .int (3 : Int32), .int (nI i), .int (0 : Int32), .int (0 : Int32)]) (rest := []) (W1 := (wSp cy xa sa sb tr na ka z)) (W2 := (wSp cy xa sa sb tr na ka z)) (cu_0 l hl0 D cy t xa sa sb tr na ka oz (i := i) hi) hCF gw_L_call.more rfl hq_L_call ⟨Nat.le_of_ble_eq_true rfl, Nat.le_of_ble_eq_true rfl⟩ hG hF hP hD hS hA rfl rfl hl.1 rfl (Nat.le_of_ble_eq_true rfl) dL_holds_633 ⟨by show _ ≤ 3000; omega, by show _ ≤ 18000; omega⟩ (fun H locs hP hD hS => ?_)
    refine lv_iload hx hb dL_holds_636 (lv_at hl 9 rfl) ?_
    refine lv_icmp_ne (tgt := 671) hx hb dL_holds_638 (by decide) (fun k1 => ?_) (fun k1 => ?_)
    · refine lv_iconst (v := (0 : Int32)) hx hb dL_holds_671 (by decide) ?_
      have hl : lv_has ls 28 [(23, .int (mg (uQ (sU (pN z)) i))), (22, .int (uQ (sU (pN z)) i)), (21, .int (nI i)), (20, .int b2), (19, .int b1), (18, .int (nI k9)), (17, .int (nI md)), (15, .int tk), (14, .int can), (13, .int kd), (12, .int h), (11, .int (1 : Int32)), (2, .int n9), (0, .ref (xa 0)), (1, .int x)] := lv_sub hl [0, 1, 2, 3, 4, 5, 6, 7, 8, 9, 10, 11, 12, 13, 14] rfl
      have ea : toL (sU (pN z)) h kd (f + 1) i (b1, b2) = toL (sU (pN z)) h kd f (i + 1) (b1, b2) := by rw [toL, if_neg (fun e9 => k1 e9.1.1)]
      refine w_mt C1 (Or.inr ⟨rfl, rfl, rfl⟩) (by omega) (by omega) hl hP hD hS (fun ls H locs hl hP hD hS => ?_)
      refine W.widen (k := cells + 3) (n := slots + 18) (by omega) (by omega) ?_
      refine ih (i + 1) _ _ (by omega) (by omega) (by omega) hl hP hD hS (fun ls H locs hl hP hD hS => ?_)
      refine W.widen (k := cells + 3 * (f + 1 + 1)) (n := slots + 18 * (f + 1 + 1)) (by omega) (by omega) ?_
      rw [← ea] at hl
      exact kk _ _ _ hl hP hD hS
    · refine lv_aload_n hx hb dL_holds_641 rfl (lv_at hl 13 rfl) ?_
      refine lv_iconst (v := (3 : Int32)) hx hb dL_holds_642 (by decide) ?_
      refine lv_iload hx hb dL_holds_643 (lv_at hl 2 rfl) ?_
      refine lv_iconst (v := (2 : Int32)) hx hb dL_holds_645 (by decide) ?_
      refine lv_iconst (v := (0 : Int32)) hx hb dL_holds_646 (by decide) ?_
      refine hwS (A0 := A) (As := [.ref (xa 0), .int (3 : Int32), .int (nI i), .int (2 : Int32), .int (0 : Int32)]) (rest := []) (W1 := (wSp cy xa sa sb tr na ka z)) (W2 := (wSp cy xa sa sb tr na ka z)) (cu_2 l hl0 D cy t xa sa sb tr na ka oz (i := i) hi) hCF gw_L_call.more rfl hq_L_call ⟨Nat.le_of_ble_eq_true rfl, Nat.le_of_ble_eq_true rfl⟩ hG hF hP hD hS hA rfl rfl hl.1 rfl (Nat.le_of_ble_eq_true rfl) dL_holds_647 ⟨by show _ ≤ 3000; omega, by show _ ≤ 18000; omega⟩ (fun H locs hP hD hS => ?_)
      refine lv_iload hx hb dL_holds_650 (lv_at hl 10 rfl) ?_
      refine lv_icmp_ne (tgt := 671) hx hb dL_holds_652 (by decide) (fun k2 => ?_) (fun k2 => ?_)
      · refine lv_iconst (v := (0 : Int32)) hx hb dL_holds_671 (by decide) ?_
        have hl : lv_has ls 28 [(23, .int (mg (uQ (sU (pN z)) i))), (22, .int (uQ (sU (pN z)) i)), (21, .int (nI i)), (20, .int b2), (19, .int b1), (18, .int (nI k9)), (17, .int (nI md)), (15, .int tk), (14, .int can), (13, .int kd), (12, .int h), (11, .int (1 : Int32)), (2, .int n9), (0, .ref (xa 0)), (1, .int x)] := lv_sub hl [0, 1, 2, 3, 4, 5, 6, 7, 8, 9, 10, 11, 12, 13, 14] rfl
        have ea : toL (sU (pN z)) h kd (f + 1) i (b1, b2) = toL (sU (pN z)) h kd f (i + 1) (b1, b2) := by rw [toL, if_neg (fun e9 => k2 e9.1.2)]
        refine w_mt C1 (Or.inr ⟨rfl, rfl, rfl⟩) (by omega) (by omega) hl hP hD hS (fun ls H locs hl hP hD hS => ?_)
        refine W.widen (k := cells + 3) (n := slots + 18) (by omega) (by omega) ?_
        refine ih (i + 1) _ _ (by omega) (by omega) (by omega) hl hP hD hS (fun ls H locs hl hP hD hS => ?_)
        refine W.widen (k := cells + 3 * (f + 1 + 1)) (n := slots + 18 * (f + 1 + 1)) (by omega) (by omega) ?_
        rw [← ea] at hl
        exact kk _ _ _ hl hP hD hS
      · refine lv_iload hx hb dL_holds_655 (lv_at hl 0 rfl) ?_
        refine lv_if_le (tgt := 671) hx hb dL_holds_657 (by decide) (fun k3 => ?_) (fun k3 => ?_)
        · refine lv_iconst (v := (0 : Int32)) hx hb dL_holds_671 (by decide) ?_
          have hl : lv_has ls 28 [(23, .int (mg (uQ (sU (pN z)) i))), (22, .int (uQ (sU (pN z)) i)), (21, .int (nI i)), (20, .int b2), (19, .int b1), (18, .int (nI k9)), (17, .int (nI md)), (15, .int tk), (14, .int can), (13, .int kd), (12, .int h), (11, .int (1 : Int32)), (2, .int n9), (0, .ref (xa 0)), (1, .int x)] := lv_sub hl [0, 1, 2, 3, 4, 5, 6, 7, 8, 9, 10, 11, 12, 13, 14] rfl
          have ea : toL (sU (pN z)) h kd (f + 1) i (b1, b2) = toL (sU (pN z)) h kd f (i + 1) (b1, b2) := by rw [toL, if_neg (fun e9 => (by have e8 := e9.2.1; rw [i32_lt, i32_0] at e8; have k3 : mg (uQ (sU (pN z)) i) ≤ 0 := k3; rw [i32_le, i32_0] at k3; omega))]
          refine w_mt C1 (Or.inr ⟨rfl, rfl, rfl⟩) (by omega) (by omega) hl hP hD hS (fun ls H locs hl hP hD hS => ?_)
          refine W.widen (k := cells + 3) (n := slots + 18) (by omega) (by omega) ?_
          refine ih (i + 1) _ _ (by omega) (by omega) (by omega) hl hP hD hS (fun ls H locs hl hP hD hS => ?_)
          refine W.widen (k := cells + 3 * (f + 1 + 1)) (n := slots + 18 * (f + 1 + 1)) (by omega) (by omega) ?_
          rw [← ea] at hl
          exact kk _ _ _ hl hP hD hS
        · refine lv_iload hx hb dL_holds_660 (lv_at hl 0 rfl) ?_
          refine lv_iload hx hb dL_holds_662 (lv_at hl 3 rfl) ?_
          refine lv_icmp_ge (tgt := 671) hx hb dL_holds_664 (by decide) (fun k4 => ?_) (fun k4 => ?_)
          · refine lv_iconst (v := (0 : Int32)) hx hb dL_holds_671 (by decide) ?_
            have hl : lv_has ls 28 [(23, .int (mg (uQ (sU (pN z)) i))), (22, .int (uQ (sU (pN z)) i)), (21, .int (nI i)), (20, .int b2), (19, .int b1), (18, .int (nI k9)), (17, .int (nI md)), (15, .int tk), (14, .int can), (13, .int kd), (12, .int h), (11, .int (1 : Int32)), (2, .int n9), (0, .ref (xa 0)), (1, .int x)] := lv_sub hl [0, 1, 2, 3, 4, 5, 6, 7, 8, 9, 10, 11, 12, 13, 14] rfl
            have ea : toL (sU (pN z)) h kd (f + 1) i (b1, b2) = toL (sU (pN z)) h kd f (i + 1) (b1, b2) := by rw [toL, if_neg (fun e9 => (by have e8 : mg (uQ (sU (pN z)) i) < b2 := e9.2.2; rw [i32_lt] at e8; have k4 : b2 ≤ mg (uQ (sU (pN z)) i) := k4; rw [i32_le] at k4; omega))]
            refine w_mt C1 (Or.inr ⟨rfl, rfl, rfl⟩) (by omega) (by omega) hl hP hD hS (fun ls H locs hl hP hD hS => ?_)
            refine W.widen (k := cells + 3) (n := slots + 18) (by omega) (by omega) ?_
            refine ih (i + 1) _ _ (by omega) (by omega) (by omega) hl hP hD hS (fun ls H locs hl hP hD hS => ?_)
            refine W.widen (k := cells + 3 * (f + 1 + 1)) (n := slots + 18 * (f + 1 + 1)) (by omega) (by omega) ?_
            rw [← ea] at hl
            exact kk _ _ _ hl hP hD hS
          · refine lv_iconst (v := (1 : Int32)) hx hb dL_holds_667 (by decide) ?_
            refine lv_goto (tgt := 672) hx hb dL_holds_668 (by decide) ?_
            have hl : lv_has ls 28 [(23, .int (mg (uQ (sU (pN z)) i))), (22, .int (uQ (sU (pN z)) i)), (21, .int (nI i)), (20, .int b2), (19, .int b1), (18, .int (nI k9)), (17, .int (nI md)), (15, .int tk), (14, .int can), (13, .int kd), (12, .int h), (11, .int (1 : Int32)), (2, .int n9), (0, .ref (xa 0)), (1, .int x)] := lv_sub hl [0, 1, 2, 3, 4, 5, 6, 7, 8, 9, 10, 11, 12, 13, 14] rfl
            have ea : toL (sU (pN z)) h kd (f + 1) i (b1, b2) = toL (sU (pN z)) h kd f (i + 1) (nI i, mg (uQ (sU (pN z)) i)) := by rw [toL, if_pos ⟨⟨k1, k2⟩, (by have k3 : ¬ mg (uQ (sU (pN z)) i) ≤ 0 := k3; rw [i32_le, i32_0] at k3; rw [i32_lt, i32_0]; omega), (by have k4 : ¬ b2 ≤ mg (uQ (sU (pN z)) i) := k4; rw [i32_le] at k4; show mg (uQ (sU (pN z)) i) < b2; rw [i32_lt]; omega)⟩]
            refine w_mt C1 (Or.inl ⟨rfl, rfl, rfl⟩) (by omega) (by omega) hl hP hD hS (fun ls H locs hl hP hD hS => ?_)
            refine W.widen (k := cells + 3) (n := slots + 18) (by omega) (by omega) ?_
            refine ih (i + 1) _ _ (by omega) (by omega) (by omega) hl hP hD hS (fun ls H locs hl hP hD hS => ?_)
            refine W.widen (k := cells + 3 * (f + 1 + 1)) (n := slots + 18 * (f + 1 + 1)) (by omega) (by omega) ?_
            rw [← ea] at hl
            exact kk _ _ _ hl hP hD hS
