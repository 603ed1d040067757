/-! what an action leaves of the bounds of a state -/
theorem okst_ite {P : Prop} [Decidable P] {a b : Int32 × StT} (ha : P → stOK a.2) (hb : ¬ P → stOK b.2) : stOK (if P then a else b).2 := by
  by_cases h : P
  · rw [if_pos h]; exact ha h
  · rw [if_neg h]; exact hb h
theorem un_giveTo (un : UnT) (u h : Int32) : uN (m_X7_giveTo un u h) = uN un := by
  unfold m_X7_giveTo
  by_cases c : m_X7_has un u = 0
  · rw [if_pos c]
  · rw [if_neg c]; rfl
theorem uok_same {a b : UnT} (e : uN a = uN b) (h : uOK b) : uOK a := by
  unfold uOK at h ⊢
  rw [e]; exact h
theorem uok_add {un : UnT} {a b c : Int32} (h : uOK un) : uOK (m_X7_add un a b c).2 := by
  unfold m_X7_add
  by_cases c1 : uN un < (16 : Int32)
  · rw [if_pos c1]
    exact ok_addN h c1 (un_giveTo _ _ _)
  · rw [if_neg c1]; exact h
theorem cok_upd {co : CoT} {k : Nat} {v : Int32} {c2 : CoT} (h : coOK co) (e : cC c2 = upd (cC co) k v) (hv : 0 ≤ v.toInt ∧ v.toInt ≤ 6) : coOK c2 := by
  intro j hj
  rw [e]
  by_cases g : j = k
  · rw [g, pk_us]; exact hv
  · rw [pk_un g]; exact h j hj
theorem cok_add {co : CoT} {x k d : Int32} (h : coOK co) : coOK (m_X0_add co x k d) := by
  unfold m_X0_add
  by_cases c : m_X0_hasRoom co x = 0
  · rw [if_pos c]; exact h
  · rw [if_neg c]
    have c1 := hs_hasRoom c
    have hx := hs_isHolder c1.1
    have g := h x.toNatClampNeg (tnc_lt hx.1 hx.2)
    refine cok_upd h rfl ?_
    rw [i32_add (by rw [i32_1]; omega) (by rw [i32_1]; omega), i32_1]
    omega
theorem rem_cC (x : Int32) : ∀ (nF : Nat) (r : CoT) (a i : Int32), (cC (m_X0_remove_L12 nF r x a i) = cC r) ∨ (cC (m_X0_remove_L12 nF r x a i) = upd (cC r) x.toNatClampNeg (cC r x.toNatClampNeg - 1)) := by
  intro nF
  induction nF with
  | zero => intro r a i; exact Or.inl rfl
  | succ nF ih =>
    intro r a i
    rw [m_X0_remove_L12]
    by_cases c : cC r x.toNatClampNeg ≤ i + 1
    · rw [if_pos c]; exact Or.inr rfl
    · rw [if_neg c]
      rcases ih _ a (i + 1) with e | e
      · exact Or.inl (e.trans rfl)
      · exact Or.inr (e.trans rfl)
theorem cok_remove {co : CoT} {x k : Int32} (h : coOK co) : coOK (m_X0_remove co x k) := by
  unfold m_X0_remove
  by_cases c : m_X0_owes co x k = 0
  · rw [if_pos c]; exact h
  · rw [if_neg c]
    have c1 := hs_owes c
    have hx := hs_isHolder c1.1
    have g := h x.toNatClampNeg (tnc_lt hx.1 hx.2)
    rcases rem_cC x 100 co k k with e | e
    · intro j hj; rw [e]; exact h j hj
    · refine cok_upd h e ?_
      rw [i32_sub (by rw [i32_1]; omega) (by rw [i32_1]; omega), i32_1]
      omega
theorem ok_tryCome {st : StT} {a b c : Int32} (h : stOK st) : stOK (m_X5_tryCome st a b c).2 := by
  unfold m_X5_tryCome
  exact okst_ite (fun _ => h) (fun _ => okst_ite (fun _ => h) (fun _ => okst_ite (fun _ => h) (fun _ => okst_ite (fun _ => okst_ite (fun _ => ⟨uok_add h.1, h.2⟩) (fun _ => h)) (fun _ => h))))
theorem ok_tryLend {st : StT} {a b c : Int32} (h : stOK st) : stOK (m_X5_tryLend st a b c).2 := by
  unfold m_X5_tryLend
  exact okst_ite (fun _ => h) (fun _ => okst_ite (fun _ => h) (fun _ => okst_ite (fun _ => h) (fun _ => okst_ite (fun _ => h) (fun _ => okst_ite (fun _ => h) (fun _ => h)))))
theorem ok_tryBring {st : StT} {a : Int32} (h : stOK st) : stOK (m_X5_tryBring st a).2 := by
  unfold m_X5_tryBring
  exact okst_ite (fun _ => h) (fun _ => okst_ite (fun _ => ⟨ok_giveTo (ok_pay h).1, (ok_pay h).2⟩) (fun _ => h))
theorem ok_tryExchange {st : StT} {a b : Int32} (h : stOK st) : stOK (m_X5_tryExchange st a b).2 := by
  unfold m_X5_tryExchange
  exact okst_ite (fun _ => h) (fun _ => okst_ite (fun _ => h) (fun _ => okst_ite (fun _ => h) (fun _ => okst_ite (fun _ => h) (fun _ => okst_ite (fun _ => ok_pay (st := sU' st _) ⟨ok_giveTo (ok_giveTo h.1), h.2⟩) (fun _ => h)))))
theorem ok_tryAdvance {st : StT} {a b c : Int32} (h : stOK st) : stOK (m_X5_tryAdvance st a b c).2 := by
  unfold m_X5_tryAdvance
  exact okst_ite (fun c0 => h) (fun c0 => okst_ite (fun c1 => h) (fun c1 => okst_ite (fun c2 => h) (fun c2 => okst_ite (fun c3 => h) (fun c3 => okst_ite (fun c4 => h) (fun c4 => okst_ite (fun c5 => h) (fun c5 => ⟨ok_giveTo h.1, cok_add h.2⟩))))))
theorem ok_tryDeliver {st : StT} {a : Int32} (h : stOK st) : stOK (m_X5_tryDeliver st a).2 := by
  unfold m_X5_tryDeliver
  exact okst_ite (fun _ => h) (fun _ => okst_ite (fun _ => h) (fun _ => okst_ite (fun _ => h) (fun _ => ok_pay (st := sC' (sU' st _) _) ⟨ok_giveTo h.1, cok_remove h.2⟩)))
theorem ok_tryTake {st : StT} {a b c : Int32} (h : stOK st) : stOK (m_X5_tryTake st a b c).2 := by
  unfold m_X5_tryTake
  exact okst_ite (fun _ => h) (fun _ => okst_ite (fun _ => h) (fun _ => okst_ite (fun _ => h) (fun _ => okst_ite (fun _ => h) (fun _ => okst_ite (fun _ => h) (fun _ => okst_ite (fun _ => h) (fun _ => h))))))
theorem ok_trySettle {st : StT} {a b c d : Int32} (h : stOK st) : stOK (m_X5_trySettle st a b c d).2 := by
  unfold m_X5_trySettle
  exact okst_ite (fun _ => h) (fun _ => okst_ite (fun _ => h) (fun _ => okst_ite (fun _ => h) (fun _ => okst_ite (fun _ => h) (fun _ => okst_ite (fun _ => h) (fun _ => ok_pay (st := sD' st _) h)))))
theorem ok_tryBuy {st : StT} {a b : Int32} (h : stOK st) : stOK (m_X5_tryBuy st a b).2 := by
  unfold m_X5_tryBuy
  exact okst_ite (fun _ => h) (fun _ => okst_ite (fun _ => h) (fun _ => okst_ite (fun _ => ok_pay (st := sU' st _) h) (fun _ => h)))
theorem ok_tryDays {st : StT} {a : Int32} (h : stOK st) : stOK (m_X5_tryDays st a).2 := by
  unfold m_X5_tryDays
  exact okst_ite (fun _ => h) (fun _ => okst_ite (fun _ => h) (fun _ => h))
theorem okst_pr {a : Int32} {s2 : StT} (h : stOK s2) : stOK ((a, s2) : Int32 × StT).2 := h
theorem ok_succ {st : StT} {g : Int32} (h : stOK st) : stOK (m_X3_succeeds st g).2 := by
  unfold m_X3_succeeds
  exact okst_ite (fun c0 => okst_ite (fun c1 => okst_ite (fun c2 => okst_pr (ok_tryLend h)) (fun c2 => okst_pr (ok_tryLend h))) (fun c1 => okst_ite (fun c2 => okst_ite (fun c3 => okst_pr (ok_tryBring h)) (fun c3 => okst_pr (ok_tryBring h))) (fun c2 => okst_ite (fun c3 => okst_ite (fun c4 => okst_ite (fun c5 => okst_pr (ok_tryExchange h)) (fun c5 => okst_pr (ok_tryExchange h))) (fun c4 => okst_pr h)) (fun c3 => okst_ite (fun c4 => okst_ite (fun c5 => okst_pr (ok_tryTake h)) (fun c5 => okst_pr (ok_tryTake h))) (fun c4 => okst_ite (fun c5 => okst_ite (fun c6 => okst_pr (ok_tryDays h)) (fun c6 => okst_pr (ok_tryDays h))) (fun c5 => okst_ite (fun c6 => okst_ite (fun c7 => okst_ite (fun c8 => okst_pr (ok_tryBuy h)) (fun c8 => okst_pr (ok_tryBuy h))) (fun c7 => okst_pr h)) (fun c6 => okst_ite (fun c7 => okst_ite (fun c8 => okst_ite (fun c9 => okst_pr h) (fun c9 => okst_pr h)) (fun c8 => okst_pr h)) (fun c7 => okst_ite (fun c8 => okst_ite (fun c9 => okst_ite (fun c10 => okst_pr h) (fun c10 => okst_pr h)) (fun c9 => okst_pr h)) (fun c8 => okst_ite (fun c9 => okst_ite (fun c10 => okst_pr h) (fun c10 => okst_pr h)) (fun c9 => okst_pr h)))))))))) (fun c0 => okst_ite (fun c1 => okst_ite (fun c2 => okst_pr (ok_tryLend h)) (fun c2 => okst_pr (ok_tryLend h))) (fun c1 => okst_ite (fun c2 => okst_pr h) (fun c2 => okst_ite (fun c3 => okst_ite (fun c4 => okst_ite (fun c5 => okst_pr (ok_tryExchange h)) (fun c5 => okst_pr (ok_tryExchange h))) (fun c4 => okst_pr h)) (fun c3 => okst_ite (fun c4 => okst_ite (fun c5 => okst_pr (ok_tryTake h)) (fun c5 => okst_pr (ok_tryTake h))) (fun c4 => okst_ite (fun c5 => okst_pr h) (fun c5 => okst_ite (fun c6 => okst_ite (fun c7 => okst_ite (fun c8 => okst_pr (ok_tryBuy h)) (fun c8 => okst_pr (ok_tryBuy h))) (fun c7 => okst_pr h)) (fun c6 => okst_ite (fun c7 => okst_ite (fun c8 => okst_ite (fun c9 => okst_pr h) (fun c9 => okst_pr h)) (fun c8 => okst_pr h)) (fun c7 => okst_ite (fun c8 => okst_ite (fun c9 => okst_ite (fun c10 => okst_pr h) (fun c10 => okst_pr h)) (fun c9 => okst_pr h)) (fun c8 => okst_ite (fun c9 => okst_pr h) (fun c9 => okst_pr h))))))))))
theorem ok_turn {st : StT} {g : Int32} (h : stOK st) : stOK (m_X4_turn st g).2 := by
  unfold m_X4_turn
  exact okst_ite (fun c0 => okst_pr (ok_tryCome h)) (fun c0 => okst_ite (fun c1 => okst_pr (ok_tryCome h)) (fun c1 => okst_ite (fun c2 => okst_pr (ok_tryCome h)) (fun c2 => okst_ite (fun c3 => okst_pr (ok_tryLend h)) (fun c3 => okst_ite (fun c4 => okst_pr (ok_tryLend h)) (fun c4 => okst_ite (fun c5 => okst_pr (ok_tryBring h)) (fun c5 => okst_ite (fun c6 => okst_pr (ok_tryExchange h)) (fun c6 => okst_ite (fun c7 => okst_pr (ok_tryExchange h)) (fun c7 => okst_ite (fun c8 => okst_pr (ok_tryAdvance h)) (fun c8 => okst_ite (fun c9 => okst_pr (ok_tryDeliver h)) (fun c9 => okst_ite (fun c10 => okst_pr (ok_tryTake h)) (fun c10 => okst_ite (fun c11 => okst_pr (ok_tryTake h)) (fun c11 => okst_ite (fun c12 => okst_pr (ok_tryTake h)) (fun c12 => okst_ite (fun c13 => okst_pr (ok_tryBuy h)) (fun c13 => okst_ite (fun c14 => okst_pr (ok_trySettle h)) (fun c14 => okst_pr (ok_tryDays h))))))))))))))))
