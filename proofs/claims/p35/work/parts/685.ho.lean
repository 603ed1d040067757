/-! p35: holds: from which unit it is taken -/
set_option maxRecDepth 20000 in
theorem w_nt {p : Program} {l : Launch} {e : Env} {s : State} {m : MethodId} {below : List Frame} {meth : Method} {c : Code} {D : va_G} {cy : Nat → ClassId} {t : FxA} {A : Nat → Prop} {Q : State → Prop} {xa sa sb tr na : Nat → Nat} {ka : Nat → Nat → Nat} {x : Int32} (C0 : LR p l s m meth c ([.ref (xa 0), .int x] : List Value).toArray cL_holds 28 wc_holds (some .boolean) D cy t A) {z : SpT} {k9 md : Nat} {tk can kd h n9 : Int32} {i : Nat} {m9 q9 b1 b2 d1 d2 mv pt to : Int32} (hm : (mv = 1 ∧ d1 = nI i ∧ d2 = m9) ∨ (mv = 0 ∧ d1 = b1 ∧ d2 = b2)) {cells slots : Nat} (hc : cells + 0 ≤ 3000) (hs : slots + 0 ≤ 18000) {H : Heap} {locs : List Loc} {ls : Array Slot} (hl : lv_has ls 28 [(26, .int m9), (25, .int q9), (24, .int (nI i)), (23, .int b2), (22, .int b1), (21, .int pt), (19, .int to), (18, .int (nI k9)), (17, .int (nI md)), (15, .int tk), (14, .int can), (13, .int kd), (12, .int h), (11, .int (1 : Int32)), (2, .int n9), (0, .ref (xa 0)), (1, .int x)]) (hP : va_P D vwCl (wSp cy xa sa sb tr na ka z) H) (hD : va_D A (wSp cy xa sa sb tr na ka z)) (hS : va_S A s.heap H locs) (kk : ∀ (ls : Array Slot) (H : Heap) (locs : List Loc), lv_has ls 28 [(24, .int (nI (i + 1))), (23, .int d2), (22, .int d1), (21, .int pt), (19, .int to), (18, .int (nI k9)), (17, .int (nI md)), (15, .int tk), (14, .int can), (13, .int kd), (12, .int h), (11, .int (1 : Int32)), (2, .int n9), (0, .ref (xa 0)), (1, .int x)] → va_P D vwCl (wSp cy xa sa sb tr na ka z) H → va_D A (wSp cy xa sa sb tr na ka z) → va_S A s.heap H locs → @Wx p l e ({ frames := 10, cells := 3000, slots := 18000, locals := 300 } : Room) s m ([.ref (xa 0), .int x] : List Value).toArray below meth c H locs (cells + 0) (slots + 0) Q (F0 m 765 ls [])) : @Wx p l e ({ frames := 10, cells := 3000, slots := 18000, locals := 300 } : Room) s m ([.ref (xa 0), .int x] : List Value).toArray below meth c H locs cells slots Q (F0 m 872 ls [.int mv]) := by
  obtain ⟨hx, hb, hr, hlocks, hts, hown, hCF, hG, hF, hA, hl0⟩ := C0
  rcases hm with ⟨rfl, e1, e2⟩ | ⟨rfl, e1, e2⟩
  · rw [e1, e2] at kk
    refine lv_istore (lv' := [(27, .int (1 : Int32)), (26, .int m9), (25, .int q9), (24, .int (nI i)), (23, .int b2), (22, .int b1), (21, .int pt), (19, .int to), (18, .int (nI k9)), (17, .int (nI md)), (15, .int tk), (14, .int can), (13, .int kd), (12, .int h), (11, .int (1 : Int32)), (2, .int n9), (0, .ref (xa 0)), (1, .int x)]) hx hb dL_holds_872 hl (by decide) rfl (fun ls hl => ?_)
    refine lv_iload hx hb dL_holds_874 (lv_at hl 0 rfl) ?_
    refine lv_if_eq (tgt := 884) hx hb dL_holds_876 (by decide) (fun q => absurd q (by decide)) (fun _ => ?_)
    refine lv_iload hx hb dL_holds_879 (lv_at hl 3 rfl) ?_
    refine lv_goto (tgt := 886) hx hb dL_holds_881 (by decide) ?_
    refine lv_istore (lv' := [(22, .int (nI i)), (27, .int (1 : Int32)), (26, .int m9), (25, .int q9), (24, .int (nI i)), (23, .int b2), (21, .int pt), (19, .int to), (18, .int (nI k9)), (17, .int (nI md)), (15, .int tk), (14, .int can), (13, .int kd), (12, .int h), (11, .int (1 : Int32)), (2, .int n9), (0, .ref (xa 0)), (1, .int x)]) hx hb dL_holds_886 hl (by decide) rfl (fun ls hl => ?_)
    refine lv_iload hx hb dL_holds_888 (lv_at hl 1 rfl) ?_
    refine lv_if_eq (tgt := 898) hx hb dL_holds_890 (by decide) (fun q => absurd q (by decide)) (fun _ => ?_)
    refine lv_iload hx hb dL_holds_893 (lv_at hl 2 rfl) ?_
    refine lv_goto (tgt := 900) hx hb dL_holds_895 (by decide) ?_
    refine lv_istore (lv' := [(23, .int m9), (22, .int (nI i)), (27, .int (1 : Int32)), (26, .int m9), (25, .int q9), (24, .int (nI i)), (21, .int pt), (19, .int to), (18, .int (nI k9)), (17, .int (nI md)), (15, .int tk), (14, .int can), (13, .int kd), (12, .int h), (11, .int (1 : Int32)), (2, .int n9), (0, .ref (xa 0)), (1, .int x)]) hx hb dL_holds_900 hl (by decide) rfl (fun ls hl => ?_)
    refine lv_iinc (v := ((nI i) + (1 : Int32))) (lv' := [(24, .int ((nI i) + (1 : Int32))), (23, .int m9), (22, .int (nI i)), (27, .int (1 : Int32)), (26, .int m9), (25, .int q9), (21, .int pt), (19, .int to), (18, .int (nI k9)), (17, .int (nI md)), (15, .int tk), (14, .int can), (13, .int kd), (12, .int h), (11, .int (1 : Int32)), (2, .int n9), (0, .ref (xa 0)), (1, .int x)]) hx hb dL_holds_902 hl (k := 5) rfl rfl (by decide) rfl (fun ls hl => ?_)
    refine lv_goto (tgt := 765) hx hb dL_holds_905 (by decide) ?_
    have hl : lv_has ls 28 [(24, .int (nI i + (1 : Int32))), (23, .int m9), (22, .int (nI i)), (21, .int pt), (19, .int to), (18, .int (nI k9)), (17, .int (nI md)), (15, .int tk), (14, .int can), (13, .int kd), (12, .int h), (11, .int (1 : Int32)), (2, .int n9), (0, .ref (xa 0)), (1, .int x)] := lv_sub hl [0, 1, 2, 6, 7, 8, 9, 10, 11, 12, 13, 14, 15, 16, 17] rfl
    rw [nI_1] at hl
    refine W.widen (k := cells + 0) (n := slots + 0) (by omega) (by omega) ?_
    exact kk _ _ _ hl hP hD hS
  · rw [e1, e2] at kk
    refine lv_istore (lv' := [(27, .int (0 : Int32)), (26, .int m9), (25, .int q9), (24, .int (nI i)), (23, .int b2), (22, .int b1), (21, .int pt), (19, .int to), (18, .int (nI k9)), (17, .int (nI md)), (15, .int tk), (14, .int can), (13, .int kd), (12, .int h), (11, .int (1 : Int32)), (2, .int n9), (0, .ref (xa 0)), (1, .int x)]) hx hb dL_holds_872 hl (by decide) rfl (fun ls hl => ?_)
    refine lv_iload hx hb dL_holds_874 (lv_at hl 0 rfl) ?_
    refine lv_if_eq (tgt := 884) hx hb dL_holds_876 (by decide) (fun _ => ?_) (fun q => absurd rfl q)
    refine lv_iload hx hb dL_holds_884 (lv_at hl 5 rfl) ?_
    refine lv_istore (lv' := [(22, .int b1), (27, .int (0 : Int32)), (26, .int m9), (25, .int q9), (24, .int (nI i)), (23, .int b2), (21, .int pt), (19, .int to), (18, .int (nI k9)), (17, .int (nI md)), (15, .int tk), (14, .int can), (13, .int kd), (12, .int h), (11, .int (1 : Int32)), (2, .int n9), (0, .ref (xa 0)), (1, .int x)]) hx hb dL_holds_886 hl (by decide) rfl (fun ls hl => ?_)
    refine lv_iload hx hb dL_holds_888 (lv_at hl 1 rfl) ?_
    refine lv_if_eq (tgt := 898) hx hb dL_holds_890 (by decide) (fun _ => ?_) (fun q => absurd rfl q)
    refine lv_iload hx hb dL_holds_898 (lv_at hl 5 rfl) ?_
    refine lv_istore (lv' := [(23, .int b2), (22, .int b1), (27, .int (0 : Int32)), (26, .int m9), (25, .int q9), (24, .int (nI i)), (21, .int pt), (19, .int to), (18, .int (nI k9)), (17, .int (nI md)), (15, .int tk), (14, .int can), (13, .int kd), (12, .int h), (11, .int (1 : Int32)), (2, .int n9), (0, .ref (xa 0)), (1, .int x)]) hx hb dL_holds_900 hl (by decide) rfl (fun ls hl => ?_)
    refine lv_iinc (v := ((nI i) + (1 : Int32))) (lv' := [(24, .int ((nI i) + (1 : Int32))), (23, .int b2), (22, .int b1), (27, .int (0 : Int32)), (26, .int m9), (25, .int q9), (21, .int pt), (19, .int to), (18, .int (nI k9)), (17, .int (nI md)), (15, .int tk), (14, .int can), (13, .int kd), (12, .int h), (11, .int (1 : Int32)), (2, .int n9), (0, .ref (xa 0)), (1, .int x)]) hx hb dL_holds_902 hl (k := 5) rfl rfl (by decide) rfl (fun ls hl => ?_)
    refine lv_goto (tgt := 765) hx hb dL_holds_905 (by decide) ?_
    have hl : lv_has ls 28 [(24, .int (nI i + (1 : Int32))), (23, .int b2), (22, .int b1), (21, .int pt), (19, .int to), (18, .int (nI k9)), (17, .int (nI md)), (15, .int tk), (14, .int can), (13, .int kd), (12, .int h), (11, .int (1 : Int32)), (2, .int n9), (0, .ref (xa 0)), (1, .int x)] := lv_sub hl [0, 1, 2, 6, 7, 8, 9, 10, 11, 12, 13, 14, 15, 16, 17] rfl
    rw [nI_1] at hl
    refine W.widen (k := cells + 0) (n := slots + 0) (by omega) (by omega) ?_
    exact kk _ _ _ hl hP hD hS
set_option maxRecDepth 20000 in
theorem w_fr {p : Program} {l : Launch} {e : Env} {s : State} {m : MethodId} {below : List Frame} {meth : Method} {c : Code} {D : va_G} {cy : Nat → ClassId} {t : FxA} {A : Nat → Prop} {Q : State → Prop} {xa sa sb tr na : Nat → Nat} {ka : Nat → Nat → Nat} {x : Int32} (C0 : LR p l s m meth c ([.ref (xa 0), .int x] : List Value).toArray cL_holds 28 wc_holds (some .boolean) D cy t A) {z : SpT} (oz : OKz z) {k9 md : Nat} {tk can kd h n9 : Int32} {pt to : Int32} (hn9 : n9 = uN (sU (pN z))) : ∀ (f i : Nat) (b1 b2 : Int32), i + f = uM (sU (pN z)) → ∀ {cells slots : Nat} (hc : cells + 3 * (f + 1) ≤ 3000) (hs : slots + 18 * (f + 1) ≤ 18000) {H : Heap} {locs : List Loc} {ls : Array Slot} (hl : lv_has ls 28 [(24, .int (nI i)), (23, .int b2), (22, .int b1), (21, .int pt), (19, .int to), (18, .int (nI k9)), (17, .int (nI md)), (15, .int tk), (14, .int can), (13, .int kd), (12, .int h), (11, .int (1 : Int32)), (2, .int n9), (0, .ref (xa 0)), (1, .int x)]) (hP : va_P D vwCl (wSp cy xa sa sb tr na ka z) H) (hD : va_D A (wSp cy xa sa sb tr na ka z)) (hS : va_S A s.heap H locs) (kk : ∀ (ls : Array Slot) (H : Heap) (locs : List Loc), lv_has ls 28 [(23, .int ((frL (sU (pN z)) h kd to pt f i (b1, b2)).2)), (22, .int ((frL (sU (pN z)) h kd to pt f i (b1, b2)).1)), (21, .int pt), (19, .int to), (18, .int (nI k9)), (17, .int (nI md)), (15, .int tk), (14, .int can), (13, .int kd), (12, .int h), (11, .int (1 : Int32)), (2, .int n9), (0, .ref (xa 0)), (1, .int x)] → va_P D vwCl (wSp cy xa sa sb tr na ka z) H → va_D A (wSp cy xa sa sb tr na ka z) → va_S A s.heap H locs → @Wx p l e ({ frames := 10, cells := 3000, slots := 18000, locals := 300 } : Room) s m ([.ref (xa 0), .int x] : List Value).toArray below meth c H locs (cells + 3 * (f + 1)) (slots + 18 * (f + 1)) Q (F0 m 908 ls [])), @Wx p l e ({ frames := 10, cells := 3000, slots := 18000, locals := 300 } : Room) s m ([.ref (xa 0), .int x] : List Value).toArray below meth c H locs cells slots Q (F0 m 765 ls []) := by
  have C1 := C0
  obtain ⟨hx, hb, hr, hlocks, hts, hown, hCF, hG, hF, hA, hl0⟩ := C0
  obtain ⟨m16, mN9⟩ := um16 oz.st.1
  intro f
  induction f with
  | zero =>
    intro i b1 b2 hif cells slots hc hs H locs ls hl hP hD hS kk
    refine lv_iload hx hb dL_holds_765 (lv_at hl 0 rfl) ?_
    refine lv_iload_n hx hb dL_holds_767 rfl (lv_at hl 12 rfl) ?_
    refine lv_icmp_ge (tgt := 908) hx hb dL_holds_768 (by decide) (fun _ => ?_) (fun q => absurd (by rw [i32_le, hn9, (nI_n (i := i) (by omega)).1]; omega) q)
    have hl : lv_has ls 28 [(23, .int b2), (22, .int b1), (21, .int pt), (19, .int to), (18, .int (nI k9)), (17, .int (nI md)), (15, .int tk), (14, .int can), (13, .int kd), (12, .int h), (11, .int (1 : Int32)), (2, .int n9), (0, .ref (xa 0)), (1, .int x)] := lv_sub hl [1, 2, 3, 4, 5, 6, 7, 8, 9, 10, 11, 12, 13, 14] rfl
    refine W.widen (k := cells + 3 * (0 + 1)) (n := slots + 18 * (0 + 1)) (by omega) (by omega) ?_
    exact kk _ _ _ hl hP hD hS
  | succ f ih =>
    intro i b1 b2 hif cells slots hc hs H locs ls hl hP hD hS kk
    refine lv_iload hx hb dL_holds_765 (lv_at hl 0 rfl) ?_
    refine lv_iload_n hx hb dL_holds_767 rfl (lv_at hl 12 rfl) ?_
    refine lv_icmp_ge (tgt := 908) hx hb dL_holds_768 (by decide) (fun q => absurd q (by rw [i32_le, hn9, (nI_n (i := i) (by omega)).1]; omega)) (fun _ => ?_)
    have hi : i < uM (sU (pN z)) := by omega
    refine lv_aload_n hx hb dL_holds_771 rfl (lv_at hl 13 rfl) ?_
    refine lv_iconst (v := (3 : Int32)) hx hb dL_holds_772 (by decide) ?_
    refine lv_iload hx hb dL_holds_773 (lv_at hl 0 rfl) ?_
    refine lv_iconst (v := (3 : Int32)) hx hb dL_holds_775 (by decide) ?_
    refine lv_iconst (v := (0 : Int32)) hx hb dL_holds_776 (by decide) ?_
    refine hwS (A0 := A) (As := [.ref (xa 0), .int (3 : Int32), .int (nI i), .int (3 : Int32), .int (0 : Int32)]) (rest := []) (W1 := (wSp cy xa sa sb tr na ka z)) (W2 := (wSp cy xa sa sb tr na ka z)) (cu_3 l hl0 D cy t xa sa sb tr na ka oz (i := i) hi) hCF gw_L_call.more rfl hq_L_call ⟨Nat.le_of_ble_eq_true rfl, Nat.le_of_ble_eq_true rfl⟩ hG hF hP hD hS hA rfl rfl hl.1 rfl (Nat.le_of_ble_eq_true rfl) dL_holds_777 ⟨by show _ ≤ 3000; omega, by show _ ≤ 18000; omega⟩ (fun H locs hP hD hS => ?_)
    refine lv_istore (lv' := [(25, .int (uQ (sU (pN z)) i)), (24, .int (nI i)), (23, .int b2), (22, .int b1), (21, .int pt), (19, .int to), (18, .int (nI k9)), (17, .int (nI md)), (15, .int tk), (14, .int can), (13, .int kd), (12, .int h), (11, .int (1 : Int32)), (2, .int n9), (0, .ref (xa 0)), (1, .int x)]) hx hb dL_holds_780 hl (by decide) rfl (fun ls hl => ?_)
    refine lv_iconst (v := (3 : Int32)) hx hb dL_holds_782 (by decide) ?_
    refine lv_iload hx hb dL_holds_783 (lv_at hl 0 rfl) ?_
    refine lv_iconst (v := (1 : Int32)) hx hb dL_holds_785 (by decide) ?_
    refine lv_iand hx hb dL_holds_786 ?_
    refine lv_isub hx hb dL_holds_787 ?_
    refine lv_iload hx hb dL_holds_788 (lv_at hl 0 rfl) ?_
    refine lv_iconst (v := (1 : Int32)) hx hb dL_holds_790 (by decide) ?_
    refine lv_ishr hx hb dL_holds_791 ?_
    refine lv_iconst (v := (1 : Int32)) hx hb dL_holds_792 (by decide) ?_
    refine lv_iand hx hb dL_holds_793 ?_
    refine lv_isub hx hb dL_holds_794 ?_
    refine lv_iload hx hb dL_holds_795 (lv_at hl 0 rfl) ?_
    refine lv_iconst (v := (2 : Int32)) hx hb dL_holds_797 (by decide) ?_
    refine lv_ishr hx hb dL_holds_798 ?_
    refine lv_iconst (v := (1 : Int32)) hx hb dL_holds_799 (by decide) ?_
    refine lv_iand hx hb dL_holds_800 ?_
    refine lv_isub hx hb dL_holds_801 ?_
    refine lv_istore (lv' := [(26, .int (mg (uQ (sU (pN z)) i))), (25, .int (uQ (sU (pN z)) i)), (24, .int (nI i)), (23, .int b2), (22, .int b1), (21, .int pt), (19, .int to), (18, .int (nI k9)), (17, .int (nI md)), (15, .int tk), (14, .int can), (13, .int kd), (12, .int h), (11, .int (1 : Int32)), (2, .int n9), (0, .ref (xa 0)), (1, .int x)]) hx hb dL_holds_802 hl (by decide) rfl (fun ls hl => ?_)
    refine lv_iload hx hb dL_holds_804 (lv_at hl 2 rfl) ?_
    refine lv_iload hx hb dL_holds_806 (lv_at hl 6 rfl) ?_
    refine lv_icmp_eq (tgt := 871) hx hb dL_holds_808 (by decide) (fun k0 => ?_) (fun k0 => ?_)
    · refine lv_iconst (v := (0 : Int32)) hx hb dL_holds_871 (by decide) ?_
      have hl : lv_has ls 28 [(26, .int (mg (uQ (sU (pN z)) i))), (25, .int (uQ (sU (pN z)) i)), (24, .int (nI i)), (23, .int b2), (22, .int b1), (21, .int pt), (19, .int to), (18, .int (nI k9)), (17, .int (nI md)), (15, .int tk), (14, .int can), (13, .int kd), (12, .int h), (11, .int (1 : Int32)), (2, .int n9), (0, .ref (xa 0)), (1, .int x)] := lv_sub hl [0, 1, 2, 3, 4, 5, 6, 7, 8, 9, 10, 11, 12, 13, 14, 15, 16] rfl
      have ea : frL (sU (pN z)) h kd to pt (f + 1) i (b1, b2) = frL (sU (pN z)) h kd to pt f (i + 1) (b1, b2) := by rw [frL, if_neg (fun e9 => e9.1 k0)]
      refine w_nt C1 (Or.inr ⟨rfl, rfl, rfl⟩) (by omega) (by omega) hl hP hD hS (fun ls H locs hl hP hD hS => ?_)
      refine W.widen (k := cells + 3) (n := slots + 18) (by omega) (by omega) ?_
      refine ih (i + 1) _ _ (by omega) (by omega) (by omega) hl hP hD hS (fun ls H locs hl hP hD hS => ?_)
      refine W.widen (k := cells + 3 * (f + 1 + 1)) (n := slots + 18 * (f + 1 + 1)) (by omega) (by omega) ?_
      rw [← ea] at hl
      exact kk _ _ _ hl hP hD hS
    · refine lv_aload_n hx hb dL_holds_811 rfl (lv_at hl 15 rfl) ?_
      refine lv_iconst (v := (3 : Int32)) hx hb dL_holds_812 (by decide) ?_
      refine lv_iload hx hb dL_holds_813 (lv_at hl 2 rfl) ?_
      refine lv_iconst (v := (0 : Int32)) hx hb dL_holds_815 (by decide) ?_
      refine lv_iconst (v := (0 : Int32)) hx hb dL_holds_816 (by decide) ?_
      refine hwS (A0 := A) (As := [.ref (xa 0), .int (3 : Int32), .int (nI i), .int (0 : Int32), .int (0 : Int32)]) (rest := []) (W1 := (wSp cy xa sa sb tr na ka z)) (W2 := (wSp cy xa sa sb tr na ka z)) (cu_0 l hl0 D cy t xa sa sb tr na ka oz (i := i) hi) hCF gw_L_call.more rfl hq_L_call ⟨Nat.le_of_ble_eq_true rfl, Nat.le_of_ble_eq_true rfl⟩ hG hF hP hD hS hA rfl rfl hl.1 rfl (Nat.le_of_ble_eq_true rfl) dL_holds_817 ⟨by show _ ≤ 3000; omega, by show _ ≤ 18000; omega⟩ (fun H locs hP hD hS => ?_)
      refine lv_iload hx hb dL_holds_820 (lv_at hl 11 rfl) ?_
      refine lv_icmp_ne (tgt := 871) hx hb dL_holds_822 (by decide) (fun k1 => ?_) (fun k1 => ?_)
      · refine lv_iconst (v := (0 : Int32)) hx hb dL_holds_871 (by decide) ?_
        have hl : lv_has ls 28 [(26, .int (mg (uQ (sU (pN z)) i))), (25, .int (uQ (sU (pN z)) i)), (24, .int (nI i)), (23, .int b2), (22, .int b1), (21, .int pt), (19, .int to), (18, .int (nI k9)), (17, .int (nI md)), (15, .int tk), (14, .int can), (13, .int kd), (12, .int h), (11, .int (1 : Int32)), (2, .int n9), (0, .ref (xa 0)), (1, .int x)] := lv_sub hl [0, 1, 2, 3, 4, 5, 6, 7, 8, 9, 10, 11, 12, 13, 14, 15, 16] rfl
        have ea : frL (sU (pN z)) h kd to pt (f + 1) i (b1, b2) = frL (sU (pN z)) h kd to pt f (i + 1) (b1, b2) := by rw [frL, if_neg (fun e9 => k1 e9.2.1.1)]
        refine w_nt C1 (Or.inr ⟨rfl, rfl, rfl⟩) (by omega) (by omega) hl hP hD hS (fun ls H locs hl hP hD hS => ?_)
        refine W.widen (k := cells + 3) (n := slots + 18) (by omega) (by omega) ?_
        refine ih (i + 1) _ _ (by omega) (by omega) (by omega) hl hP hD hS (fun ls H locs hl hP hD hS => ?_)
        refine W.widen (k := cells + 3 * (f + 1 + 1)) (n := slots + 18 * (f + 1 + 1)) (by omega) (by omega) ?_
        rw [← ea] at hl
        exact kk _ _ _ hl hP hD hS
      · refine lv_aload_n hx hb dL_holds_825 rfl (lv_at hl 15 rfl) ?_
        refine lv_iconst (v := (3 : Int32)) hx hb dL_holds_826 (by decide) ?_
        refine lv_iload hx hb dL_holds_827 (lv_at hl 2 rfl) ?_
        refine lv_iconst (v := (2 : Int32)) hx hb dL_holds_829 (by decide) ?_
        refine lv_iconst (v := (0 : Int32)) hx hb dL_holds_830 (by decide) ?_
        refine hwS (A0 := A) (As := [.ref (xa 0), .int (3 : Int32), .int (nI i), .int (2 : Int32), .int (0 : Int32)]) (rest := []) (W1 := (wSp cy xa sa sb tr na ka z)) (W2 := (wSp cy xa sa sb tr na ka z)) (cu_2 l hl0 D cy t xa sa sb tr na ka oz (i := i) hi) hCF gw_L_call.more rfl hq_L_call ⟨Nat.le_of_ble_eq_true rfl, Nat.le_of_ble_eq_true rfl⟩ hG hF hP hD hS hA rfl rfl hl.1 rfl (Nat.le_of_ble_eq_true rfl) dL_holds_831 ⟨by show _ ≤ 3000; omega, by show _ ≤ 18000; omega⟩ (fun H locs hP hD hS => ?_)
        refine lv_iload hx hb dL_holds_834 (lv_at hl 12 rfl) ?_
        refine lv_icmp_ne (tgt := 871) hx hb dL_holds_836 (by decide) (fun k2 => ?_) (fun k2 => ?_)
        · refine lv_iconst (v := (0 : Int32)) hx hb dL_holds_871 (by decide) ?_
          have hl : lv_has ls 28 [(26, .int (mg (uQ (sU (pN z)) i))), (25, .int (uQ (sU (pN z)) i)), (24, .int (nI i)), (23, .int b2), (22, .int b1), (21, .int pt), (19, .int to), (18, .int (nI k9)), (17, .int (nI md)), (15, .int tk), (14, .int can), (13, .int kd), (12, .int h), (11, .int (1 : Int32)), (2, .int n9), (0, .ref (xa 0)), (1, .int x)] := lv_sub hl [0, 1, 2, 3, 4, 5, 6, 7, 8, 9, 10, 11, 12, 13, 14, 15, 16] rfl
          have ea : frL (sU (pN z)) h kd to pt (f + 1) i (b1, b2) = frL (sU (pN z)) h kd to pt f (i + 1) (b1, b2) := by rw [frL, if_neg (fun e9 => k2 e9.2.1.2)]
          refine w_nt C1 (Or.inr ⟨rfl, rfl, rfl⟩) (by omega) (by omega) hl hP hD hS (fun ls H locs hl hP hD hS => ?_)
          refine W.widen (k := cells + 3) (n := slots + 18) (by omega) (by omega) ?_
          refine ih (i + 1) _ _ (by omega) (by omega) (by omega) hl hP hD hS (fun ls H locs hl hP hD hS => ?_)
          refine W.widen (k := cells + 3 * (f + 1 + 1)) (n := slots + 18 * (f + 1 + 1)) (by omega) (by omega) ?_
          rw [← ea] at hl
          exact kk _ _ _ hl hP hD hS
        · refine lv_iload hx hb dL_holds_839 (lv_at hl 1 rfl) ?_
          refine lv_iload hx hb dL_holds_841 (lv_at hl 5 rfl) ?_
          refine lv_ishr hx hb dL_holds_843 ?_
          refine lv_iconst (v := (1 : Int32)) hx hb dL_holds_844 (by decide) ?_
          refine lv_iand hx hb dL_holds_845 ?_
          refine lv_iconst (v := (1 : Int32)) hx hb dL_holds_846 (by decide) ?_
          refine lv_icmp_ne (tgt := 871) hx hb dL_holds_847 (by decide) (fun k3 => ?_) (fun k3 => ?_)
          · refine lv_iconst (v := (0 : Int32)) hx hb dL_holds_871 (by decide) ?_
            have hl : lv_has ls 28 [(26, .int (mg (uQ (sU (pN z)) i))), (25, .int (uQ (sU (pN z)) i)), (24, .int (nI i)), (23, .int b2), (22, .int b1), (21, .int pt), (19, .int to), (18, .int (nI k9)), (17, .int (nI md)), (15, .int tk), (14, .int can), (13, .int kd), (12, .int h), (11, .int (1 : Int32)), (2, .int n9), (0, .ref (xa 0)), (1, .int x)] := lv_sub hl [0, 1, 2, 3, 4, 5, 6, 7, 8, 9, 10, 11, 12, 13, 14, 15, 16] rfl
            have ea : frL (sU (pN z)) h kd to pt (f + 1) i (b1, b2) = frL (sU (pN z)) h kd to pt f (i + 1) (b1, b2) := by rw [frL, if_neg (fun e9 => k3 e9.2.2.1)]
            refine w_nt C1 (Or.inr ⟨rfl, rfl, rfl⟩) (by omega) (by omega) hl hP hD hS (fun ls H locs hl hP hD hS => ?_)
            refine W.widen (k := cells + 3) (n := slots + 18) (by omega) (by omega) ?_
            refine ih (i + 1) _ _ (by omega) (by omega) (by omega) hl hP hD hS (fun ls H locs hl hP hD hS => ?_)
            refine W.widen (k := cells + 3 * (f + 1 + 1)) (n := slots + 18 * (f + 1 + 1)) (by omega) (by omega) ?_
            rw [← ea] at hl
            exact kk _ _ _ hl hP hD hS
          · refine lv_iload hx hb dL_holds_850 (lv_at hl 0 rfl) ?_
            refine lv_if_le (tgt := 871) hx hb dL_holds_852 (by decide) (fun k4 => ?_) (fun k4 => ?_)
            · refine lv_iconst (v := (0 : Int32)) hx hb dL_holds_871 (by decide) ?_
              have hl : lv_has ls 28 [(26, .int (mg (uQ (sU (pN z)) i))), (25, .int (uQ (sU (pN z)) i)), (24, .int (nI i)), (23, .int b2), (22, .int b1), (21, .int pt), (19, .int to), (18, .int (nI k9)), (17, .int (nI md)), (15, .int tk), (14, .int can), (13, .int kd), (12, .int h), (11, .int (1 : Int32)), (2, .int n9), (0, .ref (xa 0)), (1, .int x)] := lv_sub hl [0, 1, 2, 3, 4, 5, 6, 7, 8, 9, 10, 11, 12, 13, 14, 15, 16] rfl
              have ea : frL (sU (pN z)) h kd to pt (f + 1) i (b1, b2) = frL (sU (pN z)) h kd to pt f (i + 1) (b1, b2) := by rw [frL, if_neg (fun e9 => (by have e8 := e9.2.2.2.1; rw [i32_lt, i32_0] at e8; have k4 : mg (uQ (sU (pN z)) i) ≤ 0 := k4; rw [i32_le, i32_0] at k4; omega))]
              refine w_nt C1 (Or.inr ⟨rfl, rfl, rfl⟩) (by omega) (by omega) hl hP hD hS (fun ls H locs hl hP hD hS => ?_)
              refine W.widen (k := cells + 3) (n := slots + 18) (by omega) (by omega) ?_
              refine ih (i + 1) _ _ (by omega) (by omega) (by omega) hl hP hD hS (fun ls H locs hl hP hD hS => ?_)
              refine W.widen (k := cells + 3 * (f + 1 + 1)) (n := slots + 18 * (f + 1 + 1)) (by omega) (by omega) ?_
              rw [← ea] at hl
              exact kk _ _ _ hl hP hD hS
            · refine lv_iload hx hb dL_holds_855 (lv_at hl 4 rfl) ?_
              refine lv_if_lt (tgt := 867) hx hb dL_holds_857 (by decide) (fun k5 => ?_) (fun k5 => ?_)
              · refine lv_iconst (v := (1 : Int32)) hx hb dL_holds_867 (by decide) ?_
                refine lv_goto (tgt := 872) hx hb dL_holds_868 (by decide) ?_
                have hl : lv_has ls 28 [(26, .int (mg (uQ (sU (pN z)) i))), (25, .int (uQ (sU (pN z)) i)), (24, .int (nI i)), (23, .int b2), (22, .int b1), (21, .int pt), (19, .int to), (18, .int (nI k9)), (17, .int (nI md)), (15, .int tk), (14, .int can), (13, .int kd), (12, .int h), (11, .int (1 : Int32)), (2, .int n9), (0, .ref (xa 0)), (1, .int x)] := lv_sub hl [0, 1, 2, 3, 4, 5, 6, 7, 8, 9, 10, 11, 12, 13, 14, 15, 16] rfl
                have ea : frL (sU (pN z)) h kd to pt (f + 1) i (b1, b2) = frL (sU (pN z)) h kd to pt f (i + 1) (nI i, mg (uQ (sU (pN z)) i)) := by rw [frL, if_pos ⟨k0, ⟨k1, k2⟩, k3, (by have k4 : ¬ mg (uQ (sU (pN z)) i) ≤ 0 := k4; rw [i32_le, i32_0] at k4; rw [i32_lt, i32_0]; omega), Or.inl k5⟩]
                refine w_nt C1 (Or.inl ⟨rfl, rfl, rfl⟩) (by omega) (by omega) hl hP hD hS (fun ls H locs hl hP hD hS => ?_)
                refine W.widen (k := cells + 3) (n := slots + 18) (by omega) (by omega) ?_
                refine ih (i + 1) _ _ (by omega) (by omega) (by omega) hl hP hD hS (fun ls H locs hl hP hD hS => ?_)
                refine W.widen (k := cells + 3 * (f + 1 + 1)) (n := slots + 18 * (f + 1 + 1)) (by omega) (by omega) ?_
                rw [← ea] at hl
                exact kk _ _ _ hl hP hD hS
              · refine lv_iload hx hb dL_holds_860 (lv_at hl 0 rfl) ?_
                refine lv_iload hx hb dL_holds_862 (lv_at hl 3 rfl) ?_
                refine lv_icmp_lt (tgt := 871) hx hb dL_holds_864 (by decide) (fun k6 => ?_) (fun k6 => ?_)
                · refine lv_iconst (v := (0 : Int32)) hx hb dL_holds_871 (by decide) ?_
                  have hl : lv_has ls 28 [(26, .int (mg (uQ (sU (pN z)) i))), (25, .int (uQ (sU (pN z)) i)), (24, .int (nI i)), (23, .int b2), (22, .int b1), (21, .int pt), (19, .int to), (18, .int (nI k9)), (17, .int (nI md)), (15, .int tk), (14, .int can), (13, .int kd), (12, .int h), (11, .int (1 : Int32)), (2, .int n9), (0, .ref (xa 0)), (1, .int x)] := lv_sub hl [0, 1, 2, 3, 4, 5, 6, 7, 8, 9, 10, 11, 12, 13, 14, 15, 16] rfl
                  have ea : frL (sU (pN z)) h kd to pt (f + 1) i (b1, b2) = frL (sU (pN z)) h kd to pt f (i + 1) (b1, b2) := by rw [frL, if_neg (fun e9 => (by have e8 : b1 < 0 ∨ b2 ≤ mg (uQ (sU (pN z)) i) := e9.2.2.2.2; have e7 := e8.resolve_left k5; rw [i32_le] at e7; have k6 : mg (uQ (sU (pN z)) i) < b2 := k6; rw [i32_lt] at k6; omega))]
                  refine w_nt C1 (Or.inr ⟨rfl, rfl, rfl⟩) (by omega) (by omega) hl hP hD hS (fun ls H locs hl hP hD hS => ?_)
                  refine W.widen (k := cells + 3) (n := slots + 18) (by omega) (by omega) ?_
                  refine ih (i + 1) _ _ (by omega) (by omega) (by omega) hl hP hD hS (fun ls H locs hl hP hD hS => ?_)
                  refine W.widen (k := cells + 3 * (f + 1 + 1)) (n := slots + 18 * (f + 1 + 1)) (by omega) (by omega) ?_
                  rw [← ea] at hl
                  exact kk _ _ _ hl hP hD hS
                · refine lv_iconst (v := (1 : Int32)) hx hb dL_holds_867 (by decide) ?_
                  refine lv_goto (tgt := 872) hx hb dL_holds_868 (by decide) ?_
                  have hl : lv_has ls 28 [(26, .int (mg (uQ (sU (pN z)) i))), (25, .int (uQ (sU (pN z)) i)), (24, .int (nI i)), (23, .int b2), (22, .int b1), (21, .int pt), (19, .int to), (18, .int (nI k9)), (17, .int (nI md)), (15, .int tk), (14, .int can), (13, .int kd), (12, .int h), (11, .int (1 : Int32)), (2, .int n9), (0, .ref (xa 0)), (1, .int x)] := lv_sub hl [0, 1, 2, 3, 4, 5, 6, 7, 8, 9, 10, 11, 12, 13, 14, 15, 16] rfl
                  have ea : frL (sU (pN z)) h kd to pt (f + 1) i (b1, b2) = frL (sU (pN z)) h kd to pt f (i + 1) (nI i, mg (uQ (sU (pN z)) i)) := by rw [frL, if_pos ⟨k0, ⟨k1, k2⟩, k3, (by have k4 : ¬ mg (uQ (sU (pN z)) i) ≤ 0 := k4; rw [i32_le, i32_0] at k4; rw [i32_lt, i32_0]; omega), Or.inr (by have k6 : ¬ mg (uQ (sU (pN z)) i) < b2 := k6; rw [i32_lt] at k6; show b2 ≤ mg (uQ (sU (pN z)) i); rw [i32_le]; omega)⟩]
                  refine w_nt C1 (Or.inl ⟨rfl, rfl, rfl⟩) (by omega) (by omega) hl hP hD hS (fun ls H locs hl hP hD hS => ?_)
                  refine W.widen (k := cells + 3) (n := slots + 18) (by omega) (by omega) ?_
                  refine ih (i + 1) _ _ (by omega) (by omega) (by omega) hl hP hD hS (fun ls H locs hl hP hD hS => ?_)
                  refine W.widen (k := cells + 3 * (f + 1 + 1)) (n := slots + 18 * (f + 1 + 1)) (by omega) (by omega) ?_
                  rw [← ea] at hl
                  exact kk _ _ _ hl hP hD hS
