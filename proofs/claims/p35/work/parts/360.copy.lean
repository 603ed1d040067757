def wStC (cy : Nat → ClassId) (a b : Nat → Nat) (z z2 : StT) : va_W := wSt cy a z ++ wSt cy b z2
def wUnC (cy : Nat → ClassId) (a0 a1 a2 a3 a4 a5 b0 b1 b2 b3 b4 b5 : Nat) (z z2 : UnT) : va_W := wUn cy a0 a1 a2 a3 a4 a5 z ++ wUn cy b0 b1 b2 b3 b4 b5 z2
theorem g_UnC_0 {cy : Nat → ClassId} {a0 a1 a2 a3 a4 a5 b0 b1 b2 b3 b4 b5 : Nat} {uo : UnT} {un : UnT} : (wUnC cy a0 a1 a2 a3 a4 a5 b0 b1 b2 b3 b4 b5 un uo)[0]? = some (a0, .inr (5, [.ref a1, .ref a2, .ref a3, .ref a4, .ref a5, .int (uN un)])) := rfl
theorem s_UnC_0_5 {cy : Nat → ClassId} {a0 a1 a2 a3 a4 a5 b0 b1 b2 b3 b4 b5 : Nat} {uo : UnT} {un : UnT} {v : Int32} : (wUnC cy a0 a1 a2 a3 a4 a5 b0 b1 b2 b3 b4 b5 un uo).set 0 (a0, .inr (5, List.set [.ref a1, .ref a2, .ref a3, .ref a4, .ref a5, .int (uN un)] 5 (.int v))) = (wUnC cy a0 a1 a2 a3 a4 a5 b0 b1 b2 b3 b4 b5 (uN' un v) uo) := rfl
theorem g_UnC_1 {cy : Nat → ClassId} {a0 a1 a2 a3 a4 a5 b0 b1 b2 b3 b4 b5 : Nat} {uo : UnT} {un : UnT} : (wUnC cy a0 a1 a2 a3 a4 a5 b0 b1 b2 b3 b4 b5 un uo)[1]? = some (a1, .inl (cy 0, 16, .inl (uK un))) := rfl
theorem s_UnC_1 {cy : Nat → ClassId} {a0 a1 a2 a3 a4 a5 b0 b1 b2 b3 b4 b5 : Nat} {uo : UnT} {un : UnT} {f : Nat → Int32} : (wUnC cy a0 a1 a2 a3 a4 a5 b0 b1 b2 b3 b4 b5 un uo).set 1 (a1, .inl (cy 0, 16, .inl f)) = (wUnC cy a0 a1 a2 a3 a4 a5 b0 b1 b2 b3 b4 b5 (uK' un f) uo) := rfl
theorem g_UnC_2 {cy : Nat → ClassId} {a0 a1 a2 a3 a4 a5 b0 b1 b2 b3 b4 b5 : Nat} {uo : UnT} {un : UnT} : (wUnC cy a0 a1 a2 a3 a4 a5 b0 b1 b2 b3 b4 b5 un uo)[2]? = some (a2, .inl (cy 0, 16, .inl (uO un))) := rfl
theorem s_UnC_2 {cy : Nat → ClassId} {a0 a1 a2 a3 a4 a5 b0 b1 b2 b3 b4 b5 : Nat} {uo : UnT} {un : UnT} {f : Nat → Int32} : (wUnC cy a0 a1 a2 a3 a4 a5 b0 b1 b2 b3 b4 b5 un uo).set 2 (a2, .inl (cy 0, 16, .inl f)) = (wUnC cy a0 a1 a2 a3 a4 a5 b0 b1 b2 b3 b4 b5 (uO' un f) uo) := rfl
theorem g_UnC_3 {cy : Nat → ClassId} {a0 a1 a2 a3 a4 a5 b0 b1 b2 b3 b4 b5 : Nat} {uo : UnT} {un : UnT} : (wUnC cy a0 a1 a2 a3 a4 a5 b0 b1 b2 b3 b4 b5 un uo)[3]? = some (a3, .inl (cy 0, 16, .inl (uP un))) := rfl
theorem s_UnC_3 {cy : Nat → ClassId} {a0 a1 a2 a3 a4 a5 b0 b1 b2 b3 b4 b5 : Nat} {uo : UnT} {un : UnT} {f : Nat → Int32} : (wUnC cy a0 a1 a2 a3 a4 a5 b0 b1 b2 b3 b4 b5 un uo).set 3 (a3, .inl (cy 0, 16, .inl f)) = (wUnC cy a0 a1 a2 a3 a4 a5 b0 b1 b2 b3 b4 b5 (uP' un f) uo) := rfl
theorem g_UnC_4 {cy : Nat → ClassId} {a0 a1 a2 a3 a4 a5 b0 b1 b2 b3 b4 b5 : Nat} {uo : UnT} {un : UnT} : (wUnC cy a0 a1 a2 a3 a4 a5 b0 b1 b2 b3 b4 b5 un uo)[4]? = some (a4, .inl (cy 0, 16, .inl (uQ un))) := rfl
theorem s_UnC_4 {cy : Nat → ClassId} {a0 a1 a2 a3 a4 a5 b0 b1 b2 b3 b4 b5 : Nat} {uo : UnT} {un : UnT} {f : Nat → Int32} : (wUnC cy a0 a1 a2 a3 a4 a5 b0 b1 b2 b3 b4 b5 un uo).set 4 (a4, .inl (cy 0, 16, .inl f)) = (wUnC cy a0 a1 a2 a3 a4 a5 b0 b1 b2 b3 b4 b5 (uQ' un f) uo) := rfl
theorem g_UnC_5 {cy : Nat → ClassId} {a0 a1 a2 a3 a4 a5 b0 b1 b2 b3 b4 b5 : Nat} {uo : UnT} {un : UnT} : (wUnC cy a0 a1 a2 a3 a4 a5 b0 b1 b2 b3 b4 b5 un uo)[5]? = some (a5, .inl (cy 0, 16, .inl (uD un))) := rfl
theorem s_UnC_5 {cy : Nat → ClassId} {a0 a1 a2 a3 a4 a5 b0 b1 b2 b3 b4 b5 : Nat} {uo : UnT} {un : UnT} {f : Nat → Int32} : (wUnC cy a0 a1 a2 a3 a4 a5 b0 b1 b2 b3 b4 b5 un uo).set 5 (a5, .inl (cy 0, 16, .inl f)) = (wUnC cy a0 a1 a2 a3 a4 a5 b0 b1 b2 b3 b4 b5 (uD' un f) uo) := rfl
theorem g_UnC_6 {cy : Nat → ClassId} {a0 a1 a2 a3 a4 a5 b0 b1 b2 b3 b4 b5 : Nat} {uo : UnT} {un : UnT} : (wUnC cy a0 a1 a2 a3 a4 a5 b0 b1 b2 b3 b4 b5 un uo)[6]? = some (b0, .inr (5, [.ref b1, .ref b2, .ref b3, .ref b4, .ref b5, .int (uN uo)])) := rfl
theorem g_UnC_7 {cy : Nat → ClassId} {a0 a1 a2 a3 a4 a5 b0 b1 b2 b3 b4 b5 : Nat} {uo : UnT} {un : UnT} : (wUnC cy a0 a1 a2 a3 a4 a5 b0 b1 b2 b3 b4 b5 un uo)[7]? = some (b1, .inl (cy 0, 16, .inl (uK uo))) := rfl
theorem g_UnC_8 {cy : Nat → ClassId} {a0 a1 a2 a3 a4 a5 b0 b1 b2 b3 b4 b5 : Nat} {uo : UnT} {un : UnT} : (wUnC cy a0 a1 a2 a3 a4 a5 b0 b1 b2 b3 b4 b5 un uo)[8]? = some (b2, .inl (cy 0, 16, .inl (uO uo))) := rfl
theorem g_UnC_9 {cy : Nat → ClassId} {a0 a1 a2 a3 a4 a5 b0 b1 b2 b3 b4 b5 : Nat} {uo : UnT} {un : UnT} : (wUnC cy a0 a1 a2 a3 a4 a5 b0 b1 b2 b3 b4 b5 un uo)[9]? = some (b3, .inl (cy 0, 16, .inl (uP uo))) := rfl
theorem g_UnC_10 {cy : Nat → ClassId} {a0 a1 a2 a3 a4 a5 b0 b1 b2 b3 b4 b5 : Nat} {uo : UnT} {un : UnT} : (wUnC cy a0 a1 a2 a3 a4 a5 b0 b1 b2 b3 b4 b5 un uo)[10]? = some (b4, .inl (cy 0, 16, .inl (uQ uo))) := rfl
theorem g_UnC_11 {cy : Nat → ClassId} {a0 a1 a2 a3 a4 a5 b0 b1 b2 b3 b4 b5 : Nat} {uo : UnT} {un : UnT} : (wUnC cy a0 a1 a2 a3 a4 a5 b0 b1 b2 b3 b4 b5 un uo)[11]? = some (b5, .inl (cy 0, 16, .inl (uD uo))) := rfl
theorem h_UnC {cy : Nat → ClassId} {a0 a1 a2 a3 a4 a5 b0 b1 b2 b3 b4 b5 : Nat} {uo : UnT} {z w : UnT} : (wUnC cy a0 a1 a2 a3 a4 a5 b0 b1 b2 b3 b4 b5 z uo).map Prod.fst = (wUnC cy a0 a1 a2 a3 a4 a5 b0 b1 b2 b3 b4 b5 w uo).map Prod.fst := rfl
theorem c_StC_UnC_1_16 {cy : Nat → ClassId} {a b : Nat → Nat} {st so : StT} : [1, 2, 3, 4, 5, 6, 16, 17, 18, 19, 20, 21].map (fun i => (wStC cy a b st so)[i]?) = (wUnC cy (a 1) (a 2) (a 3) (a 4) (a 5) (a 6) (b 1) (b 2) (b 3) (b 4) (b 5) (b 6) (sU st) (sU so)).map some := rfl
theorem r_StC_UnC_1_16 {cy : Nat → ClassId} {a b : Nat → Nat} {st so : StT} {z : UnT} : va_rep [1, 2, 3, 4, 5, 6, 16, 17, 18, 19, 20, 21] (wUnC cy (a 1) (a 2) (a 3) (a 4) (a 5) (a 6) (b 1) (b 2) (b 3) (b 4) (b 5) (b 6) z (sU so)) (wStC cy a b st so) = wStC cy a b (sU' st z) so := rfl
def wCoC (cy : Nat → ClassId) (a0 a1 a2 a3 b0 b1 b2 b3 : Nat) (z z2 : CoT) : va_W := wCo cy a0 a1 a2 a3 z ++ wCo cy b0 b1 b2 b3 z2
theorem g_CoC_0 {cy : Nat → ClassId} {a0 a1 a2 a3 b0 b1 b2 b3 : Nat} {co2 : CoT} {co : CoT} : (wCoC cy a0 a1 a2 a3 b0 b1 b2 b3 co co2)[0]? = some (a0, .inr (0, [.ref a1, .ref a2, .ref a3])) := rfl
theorem g_CoC_1 {cy : Nat → ClassId} {a0 a1 a2 a3 b0 b1 b2 b3 : Nat} {co2 : CoT} {co : CoT} : (wCoC cy a0 a1 a2 a3 b0 b1 b2 b3 co co2)[1]? = some (a1, .inl (cy 0, 30, .inl (cK co))) := rfl
theorem s_CoC_1 {cy : Nat → ClassId} {a0 a1 a2 a3 b0 b1 b2 b3 : Nat} {co2 : CoT} {co : CoT} {f : Nat → Int32} : (wCoC cy a0 a1 a2 a3 b0 b1 b2 b3 co co2).set 1 (a1, .inl (cy 0, 30, .inl f)) = (wCoC cy a0 a1 a2 a3 b0 b1 b2 b3 (cK' co f) co2) := rfl
theorem g_CoC_2 {cy : Nat → ClassId} {a0 a1 a2 a3 b0 b1 b2 b3 : Nat} {co2 : CoT} {co : CoT} : (wCoC cy a0 a1 a2 a3 b0 b1 b2 b3 co co2)[2]? = some (a2, .inl (cy 0, 30, .inl (cD co))) := rfl
theorem s_CoC_2 {cy : Nat → ClassId} {a0 a1 a2 a3 b0 b1 b2 b3 : Nat} {co2 : CoT} {co : CoT} {f : Nat → Int32} : (wCoC cy a0 a1 a2 a3 b0 b1 b2 b3 co co2).set 2 (a2, .inl (cy 0, 30, .inl f)) = (wCoC cy a0 a1 a2 a3 b0 b1 b2 b3 (cD' co f) co2) := rfl
theorem g_CoC_3 {cy : Nat → ClassId} {a0 a1 a2 a3 b0 b1 b2 b3 : Nat} {co2 : CoT} {co : CoT} : (wCoC cy a0 a1 a2 a3 b0 b1 b2 b3 co co2)[3]? = some (a3, .inl (cy 0, 5, .inl (cC co))) := rfl
theorem s_CoC_3 {cy : Nat → ClassId} {a0 a1 a2 a3 b0 b1 b2 b3 : Nat} {co2 : CoT} {co : CoT} {f : Nat → Int32} : (wCoC cy a0 a1 a2 a3 b0 b1 b2 b3 co co2).set 3 (a3, .inl (cy 0, 5, .inl f)) = (wCoC cy a0 a1 a2 a3 b0 b1 b2 b3 (cC' co f) co2) := rfl
theorem g_CoC_4 {cy : Nat → ClassId} {a0 a1 a2 a3 b0 b1 b2 b3 : Nat} {co2 : CoT} {co : CoT} : (wCoC cy a0 a1 a2 a3 b0 b1 b2 b3 co co2)[4]? = some (b0, .inr (0, [.ref b1, .ref b2, .ref b3])) := rfl
theorem g_CoC_5 {cy : Nat → ClassId} {a0 a1 a2 a3 b0 b1 b2 b3 : Nat} {co2 : CoT} {co : CoT} : (wCoC cy a0 a1 a2 a3 b0 b1 b2 b3 co co2)[5]? = some (b1, .inl (cy 0, 30, .inl (cK co2))) := rfl
theorem g_CoC_6 {cy : Nat → ClassId} {a0 a1 a2 a3 b0 b1 b2 b3 : Nat} {co2 : CoT} {co : CoT} : (wCoC cy a0 a1 a2 a3 b0 b1 b2 b3 co co2)[6]? = some (b2, .inl (cy 0, 30, .inl (cD co2))) := rfl
theorem g_CoC_7 {cy : Nat → ClassId} {a0 a1 a2 a3 b0 b1 b2 b3 : Nat} {co2 : CoT} {co : CoT} : (wCoC cy a0 a1 a2 a3 b0 b1 b2 b3 co co2)[7]? = some (b3, .inl (cy 0, 5, .inl (cC co2))) := rfl
theorem h_CoC {cy : Nat → ClassId} {a0 a1 a2 a3 b0 b1 b2 b3 : Nat} {co2 : CoT} {z w : CoT} : (wCoC cy a0 a1 a2 a3 b0 b1 b2 b3 z co2).map Prod.fst = (wCoC cy a0 a1 a2 a3 b0 b1 b2 b3 w co2).map Prod.fst := rfl
theorem c_StC_CoC_7_22 {cy : Nat → ClassId} {a b : Nat → Nat} {st so : StT} : [7, 8, 9, 10, 22, 23, 24, 25].map (fun i => (wStC cy a b st so)[i]?) = (wCoC cy (a 7) (a 8) (a 9) (a 10) (b 7) (b 8) (b 9) (b 10) (sC st) (sC so)).map some := rfl
theorem r_StC_CoC_7_22 {cy : Nat → ClassId} {a b : Nat → Nat} {st so : StT} {z : CoT} : va_rep [7, 8, 9, 10, 22, 23, 24, 25] (wCoC cy (a 7) (a 8) (a 9) (a 10) (b 7) (b 8) (b 9) (b 10) z (sC so)) (wStC cy a b st so) = wStC cy a b (sC' st z) so := rfl
def wDeC (cy : Nat → ClassId) (a0 a1 b0 b1 : Nat) (z z2 : (Nat → Int32)) : va_W := wDe cy a0 a1 z ++ wDe cy b0 b1 z2
theorem g_DeC_0 {cy : Nat → ClassId} {a0 a1 b0 b1 : Nat} {de2 : (Nat → Int32)} {de : (Nat → Int32)} : (wDeC cy a0 a1 b0 b1 de de2)[0]? = some (a0, .inr (1, [.ref a1])) := rfl
theorem g_DeC_1 {cy : Nat → ClassId} {a0 a1 b0 b1 : Nat} {de2 : (Nat → Int32)} {de : (Nat → Int32)} : (wDeC cy a0 a1 b0 b1 de de2)[1]? = some (a1, .inl (cy 0, 225, .inl de)) := rfl
theorem s_DeC_1 {cy : Nat → ClassId} {a0 a1 b0 b1 : Nat} {de2 : (Nat → Int32)} {de : (Nat → Int32)} {f : Nat → Int32} : (wDeC cy a0 a1 b0 b1 de de2).set 1 (a1, .inl (cy 0, 225, .inl f)) = (wDeC cy a0 a1 b0 b1 f de2) := rfl
theorem g_DeC_2 {cy : Nat → ClassId} {a0 a1 b0 b1 : Nat} {de2 : (Nat → Int32)} {de : (Nat → Int32)} : (wDeC cy a0 a1 b0 b1 de de2)[2]? = some (b0, .inr (1, [.ref b1])) := rfl
theorem g_DeC_3 {cy : Nat → ClassId} {a0 a1 b0 b1 : Nat} {de2 : (Nat → Int32)} {de : (Nat → Int32)} : (wDeC cy a0 a1 b0 b1 de de2)[3]? = some (b1, .inl (cy 0, 225, .inl de2)) := rfl
theorem h_DeC {cy : Nat → ClassId} {a0 a1 b0 b1 : Nat} {de2 : (Nat → Int32)} {z w : (Nat → Int32)} : (wDeC cy a0 a1 b0 b1 z de2).map Prod.fst = (wDeC cy a0 a1 b0 b1 w de2).map Prod.fst := rfl
theorem c_StC_DeC_11_26 {cy : Nat → ClassId} {a b : Nat → Nat} {st so : StT} : [11, 12, 26, 27].map (fun i => (wStC cy a b st so)[i]?) = (wDeC cy (a 11) (a 12) (b 11) (b 12) (sD st) (sD so)).map some := rfl
theorem r_StC_DeC_11_26 {cy : Nat → ClassId} {a b : Nat → Nat} {st so : StT} {z : (Nat → Int32)} : va_rep [11, 12, 26, 27] (wDeC cy (a 11) (a 12) (b 11) (b 12) z (sD so)) (wStC cy a b st so) = wStC cy a b (sD' st z) so := rfl
theorem g_StC_0 {cy : Nat → ClassId} {a b : Nat → Nat} {so : StT} {st : StT} : (wStC cy a b st so)[0]? = some ((a 0), .inr (3, [.ref (a 1), .ref (a 7), .ref (a 11), .ref (a 13), .ref (a 14), .int (sT st), .int (sK st), .int (sX st), .int (sO st)])) := rfl
theorem s_StC_0_5 {cy : Nat → ClassId} {a b : Nat → Nat} {so : StT} {st : StT} {v : Int32} : (wStC cy a b st so).set 0 ((a 0), .inr (3, List.set [.ref (a 1), .ref (a 7), .ref (a 11), .ref (a 13), .ref (a 14), .int (sT st), .int (sK st), .int (sX st), .int (sO st)] 5 (.int v))) = (wStC cy a b (sT' st v) so) := rfl
theorem s_StC_0_6 {cy : Nat → ClassId} {a b : Nat → Nat} {so : StT} {st : StT} {v : Int32} : (wStC cy a b st so).set 0 ((a 0), .inr (3, List.set [.ref (a 1), .ref (a 7), .ref (a 11), .ref (a 13), .ref (a 14), .int (sT st), .int (sK st), .int (sX st), .int (sO st)] 6 (.int v))) = (wStC cy a b (sK' st v) so) := rfl
theorem s_StC_0_7 {cy : Nat → ClassId} {a b : Nat → Nat} {so : StT} {st : StT} {v : Int32} : (wStC cy a b st so).set 0 ((a 0), .inr (3, List.set [.ref (a 1), .ref (a 7), .ref (a 11), .ref (a 13), .ref (a 14), .int (sT st), .int (sK st), .int (sX st), .int (sO st)] 7 (.int v))) = (wStC cy a b (sX' st v) so) := rfl
theorem s_StC_0_8 {cy : Nat → ClassId} {a b : Nat → Nat} {so : StT} {st : StT} {v : Int32} : (wStC cy a b st so).set 0 ((a 0), .inr (3, List.set [.ref (a 1), .ref (a 7), .ref (a 11), .ref (a 13), .ref (a 14), .int (sT st), .int (sK st), .int (sX st), .int (sO st)] 8 (.int v))) = (wStC cy a b (sO' st v) so) := rfl
theorem g_StC_1 {cy : Nat → ClassId} {a b : Nat → Nat} {so : StT} {st : StT} : (wStC cy a b st so)[1]? = some ((a 1), .inr (5, [.ref (a 2), .ref (a 3), .ref (a 4), .ref (a 5), .ref (a 6), .int (uN (sU st))])) := rfl
theorem s_StC_1_5 {cy : Nat → ClassId} {a b : Nat → Nat} {so : StT} {st : StT} {v : Int32} : (wStC cy a b st so).set 1 ((a 1), .inr (5, List.set [.ref (a 2), .ref (a 3), .ref (a 4), .ref (a 5), .ref (a 6), .int (uN (sU st))] 5 (.int v))) = (wStC cy a b (sU' st (uN' (sU st) v)) so) := rfl
theorem g_StC_2 {cy : Nat → ClassId} {a b : Nat → Nat} {so : StT} {st : StT} : (wStC cy a b st so)[2]? = some ((a 2), .inl (cy 0, 16, .inl (uK (sU st)))) := rfl
theorem s_StC_2 {cy : Nat → ClassId} {a b : Nat → Nat} {so : StT} {st : StT} {f : Nat → Int32} : (wStC cy a b st so).set 2 ((a 2), .inl (cy 0, 16, .inl f)) = (wStC cy a b (sU' st (uK' (sU st) f)) so) := rfl
theorem g_StC_3 {cy : Nat → ClassId} {a b : Nat → Nat} {so : StT} {st : StT} : (wStC cy a b st so)[3]? = some ((a 3), .inl (cy 0, 16, .inl (uO (sU st)))) := rfl
theorem s_StC_3 {cy : Nat → ClassId} {a b : Nat → Nat} {so : StT} {st : StT} {f : Nat → Int32} : (wStC cy a b st so).set 3 ((a 3), .inl (cy 0, 16, .inl f)) = (wStC cy a b (sU' st (uO' (sU st) f)) so) := rfl
theorem g_StC_4 {cy : Nat → ClassId} {a b : Nat → Nat} {so : StT} {st : StT} : (wStC cy a b st so)[4]? = some ((a 4), .inl (cy 0, 16, .inl (uP (sU st)))) := rfl
theorem s_StC_4 {cy : Nat → ClassId} {a b : Nat → Nat} {so : StT} {st : StT} {f : Nat → Int32} : (wStC cy a b st so).set 4 ((a 4), .inl (cy 0, 16, .inl f)) = (wStC cy a b (sU' st (uP' (sU st) f)) so) := rfl
theorem g_StC_5 {cy : Nat → ClassId} {a b : Nat → Nat} {so : StT} {st : StT} : (wStC cy a b st so)[5]? = some ((a 5), .inl (cy 0, 16, .inl (uQ (sU st)))) := rfl
theorem s_StC_5 {cy : Nat → ClassId} {a b : Nat → Nat} {so : StT} {st : StT} {f : Nat → Int32} : (wStC cy a b st so).set 5 ((a 5), .inl (cy 0, 16, .inl f)) = (wStC cy a b (sU' st (uQ' (sU st) f)) so) := rfl
theorem g_StC_6 {cy : Nat → ClassId} {a b : Nat → Nat} {so : StT} {st : StT} : (wStC cy a b st so)[6]? = some ((a 6), .inl (cy 0, 16, .inl (uD (sU st)))) := rfl
theorem s_StC_6 {cy : Nat → ClassId} {a b : Nat → Nat} {so : StT} {st : StT} {f : Nat → Int32} : (wStC cy a b st so).set 6 ((a 6), .inl (cy 0, 16, .inl f)) = (wStC cy a b (sU' st (uD' (sU st) f)) so) := rfl
theorem g_StC_7 {cy : Nat → ClassId} {a b : Nat → Nat} {so : StT} {st : StT} : (wStC cy a b st so)[7]? = some ((a 7), .inr (0, [.ref (a 8), .ref (a 9), .ref (a 10)])) := rfl
theorem g_StC_8 {cy : Nat → ClassId} {a b : Nat → Nat} {so : StT} {st : StT} : (wStC cy a b st so)[8]? = some ((a 8), .inl (cy 0, 30, .inl (cK (sC st)))) := rfl
theorem s_StC_8 {cy : Nat → ClassId} {a b : Nat → Nat} {so : StT} {st : StT} {f : Nat → Int32} : (wStC cy a b st so).set 8 ((a 8), .inl (cy 0, 30, .inl f)) = (wStC cy a b (sC' st (cK' (sC st) f)) so) := rfl
theorem g_StC_9 {cy : Nat → ClassId} {a b : Nat → Nat} {so : StT} {st : StT} : (wStC cy a b st so)[9]? = some ((a 9), .inl (cy 0, 30, .inl (cD (sC st)))) := rfl
theorem s_StC_9 {cy : Nat → ClassId} {a b : Nat → Nat} {so : StT} {st : StT} {f : Nat → Int32} : (wStC cy a b st so).set 9 ((a 9), .inl (cy 0, 30, .inl f)) = (wStC cy a b (sC' st (cD' (sC st) f)) so) := rfl
theorem g_StC_10 {cy : Nat → ClassId} {a b : Nat → Nat} {so : StT} {st : StT} : (wStC cy a b st so)[10]? = some ((a 10), .inl (cy 0, 5, .inl (cC (sC st)))) := rfl
theorem s_StC_10 {cy : Nat → ClassId} {a b : Nat → Nat} {so : StT} {st : StT} {f : Nat → Int32} : (wStC cy a b st so).set 10 ((a 10), .inl (cy 0, 5, .inl f)) = (wStC cy a b (sC' st (cC' (sC st) f)) so) := rfl
theorem g_StC_11 {cy : Nat → ClassId} {a b : Nat → Nat} {so : StT} {st : StT} : (wStC cy a b st so)[11]? = some ((a 11), .inr (1, [.ref (a 12)])) := rfl
theorem g_StC_12 {cy : Nat → ClassId} {a b : Nat → Nat} {so : StT} {st : StT} : (wStC cy a b st so)[12]? = some ((a 12), .inl (cy 0, 225, .inl (sD st))) := rfl
theorem s_StC_12 {cy : Nat → ClassId} {a b : Nat → Nat} {so : StT} {st : StT} {f : Nat → Int32} : (wStC cy a b st so).set 12 ((a 12), .inl (cy 0, 225, .inl f)) = (wStC cy a b (sD' st f) so) := rfl
theorem g_StC_13 {cy : Nat → ClassId} {a b : Nat → Nat} {so : StT} {st : StT} : (wStC cy a b st so)[13]? = some ((a 13), .inl (cy 0, 5, .inl (sA st))) := rfl
theorem s_StC_13 {cy : Nat → ClassId} {a b : Nat → Nat} {so : StT} {st : StT} {f : Nat → Int32} : (wStC cy a b st so).set 13 ((a 13), .inl (cy 0, 5, .inl f)) = (wStC cy a b (sA' st f) so) := rfl
theorem g_StC_14 {cy : Nat → ClassId} {a b : Nat → Nat} {so : StT} {st : StT} : (wStC cy a b st so)[14]? = some ((a 14), .inl (cy 0, 3, .inl (sS st))) := rfl
theorem s_StC_14 {cy : Nat → ClassId} {a b : Nat → Nat} {so : StT} {st : StT} {f : Nat → Int32} : (wStC cy a b st so).set 14 ((a 14), .inl (cy 0, 3, .inl f)) = (wStC cy a b (sS' st f) so) := rfl
theorem g_StC_15 {cy : Nat → ClassId} {a b : Nat → Nat} {so : StT} {st : StT} : (wStC cy a b st so)[15]? = some ((b 0), .inr (3, [.ref (b 1), .ref (b 7), .ref (b 11), .ref (b 13), .ref (b 14), .int (sT so), .int (sK so), .int (sX so), .int (sO so)])) := rfl
theorem g_StC_16 {cy : Nat → ClassId} {a b : Nat → Nat} {so : StT} {st : StT} : (wStC cy a b st so)[16]? = some ((b 1), .inr (5, [.ref (b 2), .ref (b 3), .ref (b 4), .ref (b 5), .ref (b 6), .int (uN (sU so))])) := rfl
theorem g_StC_17 {cy : Nat → ClassId} {a b : Nat → Nat} {so : StT} {st : StT} : (wStC cy a b st so)[17]? = some ((b 2), .inl (cy 0, 16, .inl (uK (sU so)))) := rfl
theorem g_StC_18 {cy : Nat → ClassId} {a b : Nat → Nat} {so : StT} {st : StT} : (wStC cy a b st so)[18]? = some ((b 3), .inl (cy 0, 16, .inl (uO (sU so)))) := rfl
theorem g_StC_19 {cy : Nat → ClassId} {a b : Nat → Nat} {so : StT} {st : StT} : (wStC cy a b st so)[19]? = some ((b 4), .inl (cy 0, 16, .inl (uP (sU so)))) := rfl
theorem g_StC_20 {cy : Nat → ClassId} {a b : Nat → Nat} {so : StT} {st : StT} : (wStC cy a b st so)[20]? = some ((b 5), .inl (cy 0, 16, .inl (uQ (sU so)))) := rfl
theorem g_StC_21 {cy : Nat → ClassId} {a b : Nat → Nat} {so : StT} {st : StT} : (wStC cy a b st so)[21]? = some ((b 6), .inl (cy 0, 16, .inl (uD (sU so)))) := rfl
theorem g_StC_22 {cy : Nat → ClassId} {a b : Nat → Nat} {so : StT} {st : StT} : (wStC cy a b st so)[22]? = some ((b 7), .inr (0, [.ref (b 8), .ref (b 9), .ref (b 10)])) := rfl
theorem g_StC_23 {cy : Nat → ClassId} {a b : Nat → Nat} {so : StT} {st : StT} : (wStC cy a b st so)[23]? = some ((b 8), .inl (cy 0, 30, .inl (cK (sC so)))) := rfl
theorem g_StC_24 {cy : Nat → ClassId} {a b : Nat → Nat} {so : StT} {st : StT} : (wStC cy a b st so)[24]? = some ((b 9), .inl (cy 0, 30, .inl (cD (sC so)))) := rfl
theorem g_StC_25 {cy : Nat → ClassId} {a b : Nat → Nat} {so : StT} {st : StT} : (wStC cy a b st so)[25]? = some ((b 10), .inl (cy 0, 5, .inl (cC (sC so)))) := rfl
theorem g_StC_26 {cy : Nat → ClassId} {a b : Nat → Nat} {so : StT} {st : StT} : (wStC cy a b st so)[26]? = some ((b 11), .inr (1, [.ref (b 12)])) := rfl
theorem g_StC_27 {cy : Nat → ClassId} {a b : Nat → Nat} {so : StT} {st : StT} : (wStC cy a b st so)[27]? = some ((b 12), .inl (cy 0, 225, .inl (sD so))) := rfl
theorem g_StC_28 {cy : Nat → ClassId} {a b : Nat → Nat} {so : StT} {st : StT} : (wStC cy a b st so)[28]? = some ((b 13), .inl (cy 0, 5, .inl (sA so))) := rfl
theorem g_StC_29 {cy : Nat → ClassId} {a b : Nat → Nat} {so : StT} {st : StT} : (wStC cy a b st so)[29]? = some ((b 14), .inl (cy 0, 3, .inl (sS so))) := rfl
theorem h_StC {cy : Nat → ClassId} {a b : Nat → Nat} {so : StT} {z w : StT} : (wStC cy a b z so).map Prod.fst = (wStC cy a b w so).map Prod.fst := rfl
def m_X7_copyFrom (un : UnT) (uo : UnT) : UnT := uN' (uD' (uQ' (uP' (uO' (uK' un (va_cpy (uK uo) (uK un) (0 : Int32).toNatClampNeg (0 : Int32).toNatClampNeg (16 : Int32).toNatClampNeg)) (va_cpy (uO uo) (uO un) (0 : Int32).toNatClampNeg (0 : Int32).toNatClampNeg (16 : Int32).toNatClampNeg)) (va_cpy (uP uo) (uP un) (0 : Int32).toNatClampNeg (0 : Int32).toNatClampNeg (16 : Int32).toNatClampNeg)) (va_cpy (uQ uo) (uQ un) (0 : Int32).toNatClampNeg (0 : Int32).toNatClampNeg (16 : Int32).toNatClampNeg)) (va_cpy (uD uo) (uD un) (0 : Int32).toNatClampNeg (0 : Int32).toNatClampNeg (16 : Int32).toNatClampNeg)) (uN uo)
theorem hd_X7_copyFrom : yX7_copyFrom.cls = RX7 ∧ yX7_copyFrom.cls ≠ "java/lang/invoke/MethodHandle" ∧ yX7_copyFrom.cls ≠ "java/lang/invoke/VarHandle" ∧ (parseMethodDescriptor yX7_copyFrom.desc).map (fun d => d.parameters.length) = some 1 := by decide +kernel
set_option maxHeartbeats 8000000 in
set_option maxRecDepth 20000 in
theorem c_X7_copyFrom (l : Launch) (D : va_G) (cy : Nat → ClassId) (a0 a1 a2 a3 a4 a5 b0 b1 b2 b3 b4 b5 : Nat) (un : UnT) (uo : UnT) : MV l D cy yX7_copyFrom wsX7_copyFrom ({ frames := 1, cells := 0, slots := 0, locals := 40 } : Room) (wUnC cy a0 a1 a2 a3 a4 a5 b0 b1 b2 b3 b4 b5 un uo) (wUnC cy a0 a1 a2 a3 a4 a5 b0 b1 b2 b3 b4 b5 (m_X7_copyFrom un uo) uo) [.ref a0, .ref b0] := by
  refine MV.body (by decide) rfl (Nat.le_of_ble_eq_true rfl) ?_
  intro p e s m below meth c hx hb hml hr hts hown hlocks hP hG ls hl A hD hA hS
  have hl : lv_has ls 2 [(0, .ref a0), (1, .ref b0)] := hl
  have hCF : CallFix p m c cX7_copyFrom 2 s ([.ref a0, .ref b0] : List Value).toArray wsX7_copyFrom RX7 := ⟨hx, hb, hml, hown, hts⟩
  have in_X7 : ∀ w ∈ u_ws RX7 TX7 6, w ∈ wsX7_copyFrom := fun _ h => List.mem_cons_of_mem _ (List.mem_append_right _ h)
  have k_0 := hts (Cond.fieldLink RX7 9 "SparePool$Units" "kind" "[I") (List.mem_of_getElem? (i := 1) rfl)
  have k_1 := hts (Cond.methodLink RX7 27 arraycopyName) (List.mem_of_getElem? (i := 2) rfl)
  have k_2 := hts (Cond.native arraycopyName) (List.mem_of_getElem? (i := 3) rfl)
  have k_3 := hts (Cond.static arraycopyName) (List.mem_of_getElem? (i := 4) rfl)
  have k_4 := hts (Cond.initialized "java/lang/System") (List.mem_of_getElem? (i := 5) rfl)
  have k_5 := hts (Cond.fieldLink RX7 15 "SparePool$Units" "owner" "[I") (List.mem_of_getElem? (i := 6) rfl)
  have k_6 := hts (Cond.fieldLink RX7 18 "SparePool$Units" "place" "[I") (List.mem_of_getElem? (i := 7) rfl)
  have k_7 := hts (Cond.fieldLink RX7 21 "SparePool$Units" "parts" "[I") (List.mem_of_getElem? (i := 8) rfl)
  have k_8 := hts (Cond.fieldLink RX7 24 "SparePool$Units" "due" "[I") (List.mem_of_getElem? (i := 9) rfl)
  have k_9 := hts (Cond.fieldLink RX7 33 "SparePool$Units" "count" "I") (List.mem_of_getElem? (i := 10) rfl)
  have hP : va_P D vwCl (wUnC cy a0 a1 a2 a3 a4 a5 b0 b1 b2 b3 b4 b5 un uo) s.heap := hP
  refine lv_aload_n hx hb dX7_copyFrom_0 rfl (lv_at hl 1 rfl) ?_
  refine va_get (D := D) (ci := 5) (v := .ref b1) (C := RX7) (T := TX7) (N := 6) hx hb hts in_X7 hown hG.1 hP 6 g_UnC_6 rfl 0 (by decide) k_0 (fun _ h9 => h9) rfl dX7_copyFrom_1 ?_
  refine lv_iconst (v := (0 : Int32)) hx hb dX7_copyFrom_4 (by decide) ?_
  refine lv_aload_n hx hb dX7_copyFrom_5 rfl (lv_at hl 0 rfl) ?_
  refine va_get (D := D) (ci := 5) (v := .ref a1) (C := RX7) (T := TX7) (N := 6) hx hb hts in_X7 hown hG.1 hP 0 g_UnC_0 rfl 0 (by decide) k_0 (fun _ h9 => h9) rfl dX7_copyFrom_6 ?_
  refine lv_iconst (v := (0 : Int32)) hx hb dX7_copyFrom_9 (by decide) ?_
  refine lv_bipush (v := (16 : Int32)) hx hb dX7_copyFrom_10 (by decide) ?_
  refine va_copyi hx hb (hml.trans hl.1.symm) hown k_1 k_2 k_3 k_4 hG.1 hP hD hS 7 1 0 0 (f := (uK uo)) (g := (uK un)) (ty := .int) g_UnC_7 g_UnC_1 rfl rfl rfl (by decide) (by decide) (by decide) (by decide) (by decide) (fun _ _ => rfl) (Nat.le_of_ble_eq_true rfl) (Nat.le_of_ble_eq_true rfl) dX7_copyFrom_12 (fun H locs hP hD hS => ?_)
  have hP : va_P D vwCl (wUnC cy a0 a1 a2 a3 a4 a5 b0 b1 b2 b3 b4 b5 (uK' un (va_cpy (uK uo) (uK un) (0 : Int32).toNatClampNeg (0 : Int32).toNatClampNeg (16 : Int32).toNatClampNeg)) uo) H := va_P_eq hP s_UnC_1
  have hD : va_D A (wUnC cy a0 a1 a2 a3 a4 a5 b0 b1 b2 b3 b4 b5 (uK' un (va_cpy (uK uo) (uK un) (0 : Int32).toNatClampNeg (0 : Int32).toNatClampNeg (16 : Int32).toNatClampNeg)) uo) := va_D_eq hD s_UnC_1
  refine lv_aload_n hx hb dX7_copyFrom_15 rfl (lv_at hl 1 rfl) ?_
  refine va_get (D := D) (ci := 5) (v := .ref b2) (C := RX7) (T := TX7) (N := 6) hx hb hts in_X7 hown hG.1 hP 6 g_UnC_6 rfl 1 (by decide) k_5 (fun _ h9 => h9) rfl dX7_copyFrom_16 ?_
  refine lv_iconst (v := (0 : Int32)) hx hb dX7_copyFrom_19 (by decide) ?_
  refine lv_aload_n hx hb dX7_copyFrom_20 rfl (lv_at hl 0 rfl) ?_
  refine va_get (D := D) (ci := 5) (v := .ref a2) (C := RX7) (T := TX7) (N := 6) hx hb hts in_X7 hown hG.1 hP 0 g_UnC_0 rfl 1 (by decide) k_5 (fun _ h9 => h9) rfl dX7_copyFrom_21 ?_
  refine lv_iconst (v := (0 : Int32)) hx hb dX7_copyFrom_24 (by decide) ?_
  refine lv_bipush (v := (16 : Int32)) hx hb dX7_copyFrom_25 (by decide) ?_
  refine va_copyi hx hb (hml.trans hl.1.symm) hown k_1 k_2 k_3 k_4 hG.1 hP hD hS 8 2 0 0 (f := (uO uo)) (g := (uO un)) (ty := .int) g_UnC_8 g_UnC_2 rfl rfl rfl (by decide) (by decide) (by decide) (by decide) (by decide) (fun _ _ => rfl) (Nat.le_of_ble_eq_true rfl) (Nat.le_of_ble_eq_true rfl) dX7_copyFrom_27 (fun H locs hP hD hS => ?_)
  have hP : va_P D vwCl (wUnC cy a0 a1 a2 a3 a4 a5 b0 b1 b2 b3 b4 b5 (uO' (uK' un (va_cpy (uK uo) (uK un) (0 : Int32).toNatClampNeg (0 : Int32).toNatClampNeg (16 : Int32).toNatClampNeg)) (va_cpy (uO uo) (uO un) (0 : Int32).toNatClampNeg (0 : Int32).toNatClampNeg (16 : Int32).toNatClampNeg)) uo) H := va_P_eq hP s_UnC_2
  have hD : va_D A (wUnC cy a0 a1 a2 a3 a4 a5 b0 b1 b2 b3 b4 b5 (uO' (uK' un (va_cpy (uK uo) (uK un) (0 : Int32).toNatClampNeg (0 : Int32).toNatClampNeg (16 : Int32).toNatClampNeg)) (va_cpy (uO uo) (uO un) (0 : Int32).toNatClampNeg (0 : Int32).toNatClampNeg (16 : Int32).toNatClampNeg)) uo) := va_D_eq hD s_UnC_2
  refine lv_aload_n hx hb dX7_copyFrom_30 rfl (lv_at hl 1 rfl) ?_
  refine va_get (D := D) (ci := 5) (v := .ref b3) (C := RX7) (T := TX7) (N := 6) hx hb hts in_X7 hown hG.1 hP 6 g_UnC_6 rfl 2 (by decide) k_6 (fun _ h9 => h9) rfl dX7_copyFrom_31 ?_
  refine lv_iconst (v := (0 : Int32)) hx hb dX7_copyFrom_34 (by decide) ?_
  refine lv_aload_n hx hb dX7_copyFrom_35 rfl (lv_at hl 0 rfl) ?_
  refine va_get (D := D) (ci := 5) (v := .ref a3) (C := RX7) (T := TX7) (N := 6) hx hb hts in_X7 hown hG.1 hP 0 g_UnC_0 rfl 2 (by decide) k_6 (fun _ h9 => h9) rfl dX7_copyFrom_36 ?_
  refine lv_iconst (v := (0 : Int32)) hx hb dX7_copyFrom_39 (by decide) ?_
  refine lv_bipush (v := (16 : Int32)) hx hb dX7_copyFrom_40 (by decide) ?_
  refine va_copyi hx hb (hml.trans hl.1.symm) hown k_1 k_2 k_3 k_4 hG.1 hP hD hS 9 3 0 0 (f := (uP uo)) (g := (uP un)) (ty := .int) g_UnC_9 g_UnC_3 rfl rfl rfl (by decide) (by decide) (by decide) (by decide) (by decide) (fun _ _ => rfl) (Nat.le_of_ble_eq_true rfl) (Nat.le_of_ble_eq_true rfl) dX7_copyFrom_42 (fun H locs hP hD hS => ?_)
  have hP : va_P D vwCl (wUnC cy a0 a1 a2 a3 a4 a5 b0 b1 b2 b3 b4 b5 (uP' (uO' (uK' un (va_cpy (uK uo) (uK un) (0 : Int32).toNatClampNeg (0 : Int32).toNatClampNeg (16 : Int32).toNatClampNeg)) (va_cpy (uO uo) (uO un) (0 : Int32).toNatClampNeg (0 : Int32).toNatClampNeg (16 : Int32).toNatClampNeg)) (va_cpy (uP uo) (uP un) (0 : Int32).toNatClampNeg (0 : Int32).toNatClampNeg (16 : Int32).toNatClampNeg)) uo) H := va_P_eq hP s_UnC_3
  have hD : va_D A (wUnC cy a0 a1 a2 a3 a4 a5 b0 b1 b2 b3 b4 b5 (uP' (uO' (uK' un (va_cpy (uK uo) (uK un) (0 : Int32).toNatClampNeg (0 : Int32).toNatClampNeg (16 : Int32).toNatClampNeg)) (va_cpy (uO uo) (uO un) (0 : Int32).toNatClampNeg (0 : Int32).toNatClampNeg (16 : Int32).toNatClampNeg)) (va_cpy (uP uo) (uP un) (0 : Int32).toNatClampNeg (0 : Int32).toNatClampNeg (16 : Int32).toNatClampNeg)) uo) := va_D_eq hD s_UnC_3
  refine lv_aload_n hx hb dX7_copyFrom_45 rfl (lv_at hl 1 rfl) ?_
  refine va_get (D := D) (ci := 5) (v := .ref b4) (C := RX7) (T := TX7) (N := 6) hx hb hts in_X7 hown hG.1 hP 6 g_UnC_6 rfl 3 (by decide) k_7 (fun _ h9 => h9) rfl dX7_copyFrom_46 ?_
  refine lv_iconst (v := (0 : Int32)) hx hb dX7_copyFrom_49 (by decide) ?_
  refine lv_aload_n hx hb dX7_copyFrom_50 rfl (lv_at hl 0 rfl) ?_
  refine va_get (D := D) (ci := 5) (v := .ref a4) (C := RX7) (T := TX7) (N := 6) hx hb hts in_X7 hown hG.1 hP 0 g_UnC_0 rfl 3 (by decide) k_7 (fun _ h9 => h9) rfl dX7_copyFrom_51 ?_
  refine lv_iconst (v := (0 : Int32)) hx hb dX7_copyFrom_54 (by decide) ?_
  refine lv_bipush (v := (16 : Int32)) hx hb dX7_copyFrom_55 (by decide) ?_
  refine va_copyi hx hb (hml.trans hl.1.symm) hown k_1 k_2 k_3 k_4 hG.1 hP hD hS 10 4 0 0 (f := (uQ uo)) (g := (uQ un)) (ty := .int) g_UnC_10 g_UnC_4 rfl rfl rfl (by decide) (by decide) (by decide) (by decide) (by decide) (fun _ _ => rfl) (Nat.le_of_ble_eq_true rfl) (Nat.le_of_ble_eq_true rfl) dX7_copyFrom_57 (fun H locs hP hD hS => ?_)
  have hP : va_P D vwCl (wUnC cy a0 a1 a2 a3 a4 a5 b0 b1 b2 b3 b4 b5 (uQ' (uP' (uO' (uK' un (va_cpy (uK uo) (uK un) (0 : Int32).toNatClampNeg (0 : Int32).toNatClampNeg (16 : Int32).toNatClampNeg)) (va_cpy (uO uo) (uO un) (0 : Int32).toNatClampNeg (0 : Int32).toNatClampNeg (16 : Int32).toNatClampNeg)) (va_cpy (uP uo) (uP un) (0 : Int32).toNatClampNeg (0 : Int32).toNatClampNeg (16 : Int32).toNatClampNeg)) (va_cpy (uQ uo) (uQ un) (0 : Int32).toNatClampNeg (0 : Int32).toNatClampNeg (16 : Int32).toNatClampNeg)) uo) H := va_P_eq hP s_UnC_4
  have hD : va_D A (wUnC cy a0 a1 a2 a3 a4 a5 b0 b1 b2 b3 b4 b5 (uQ' (uP' (uO' (uK' un (va_cpy (uK uo) (uK un) (0 : Int32).toNatClampNeg (0 : Int32).toNatClampNeg (16 : Int32).toNatClampNeg)) (va_cpy (uO uo) (uO un) (0 : Int32).toNatClampNeg (0 : Int32).toNatClampNeg (16 : Int32).toNatClampNeg)) (va_cpy (uP uo) (uP un) (0 : Int32).toNatClampNeg (0 : Int32).toNatClampNeg (16 : Int32).toNatClampNeg)) (va_cpy (uQ uo) (uQ un) (0 : Int32).toNatClampNeg (0 : Int32).toNatClampNeg (16 : Int32).toNatClampNeg)) uo) := va_D_eq hD s_UnC_4
  refine lv_aload_n hx hb dX7_copyFrom_60 rfl (lv_at hl 1 rfl) ?_
  refine va_get (D := D) (ci := 5) (v := .ref b5) (C := RX7) (T := TX7) (N := 6) hx hb hts in_X7 hown hG.1 hP 6 g_UnC_6 rfl 4 (by decide) k_8 (fun _ h9 => h9) rfl dX7_copyFrom_61 ?_
  refine lv_iconst (v := (0 : Int32)) hx hb dX7_copyFrom_64 (by decide) ?_
  refine lv_aload_n hx hb dX7_copyFrom_65 rfl (lv_at hl 0 rfl) ?_
  refine va_get (D := D) (ci := 5) (v := .ref a5) (C := RX7) (T := TX7) (N := 6) hx hb hts in_X7 hown hG.1 hP 0 g_UnC_0 rfl 4 (by decide) k_8 (fun _ h9 => h9) rfl dX7_copyFrom_66 ?_
  refine lv_iconst (v := (0 : Int32)) hx hb dX7_copyFrom_69 (by decide) ?_
  refine lv_bipush (v := (16 : Int32)) hx hb dX7_copyFrom_70 (by decide) ?_
  refine va_copyi hx hb (hml.trans hl.1.symm) hown k_1 k_2 k_3 k_4 hG.1 hP hD hS 11 5 0 0 (f := (uD uo)) (g := (uD un)) (ty := .int) g_UnC_11 g_UnC_5 rfl rfl rfl (by decide) (by decide) (by decide) (by decide) (by decide) (fun _ _ => rfl) (Nat.le_of_ble_eq_true rfl) (Nat.le_of_ble_eq_true rfl) dX7_copyFrom_72 (fun H locs hP hD hS => ?_)
  have hP : va_P D vwCl (wUnC cy a0 a1 a2 a3 a4 a5 b0 b1 b2 b3 b4 b5 (uD' (uQ' (uP' (uO' (uK' un (va_cpy (uK uo) (uK un) (0 : Int32).toNatClampNeg (0 : Int32).toNatClampNeg (16 : Int32).toNatClampNeg)) (va_cpy (uO uo) (uO un) (0 : Int32).toNatClampNeg (0 : Int32).toNatClampNeg (16 : Int32).toNatClampNeg)) (va_cpy (uP uo) (uP un) (0 : Int32).toNatClampNeg (0 : Int32).toNatClampNeg (16 : Int32).toNatClampNeg)) (va_cpy (uQ uo) (uQ un) (0 : Int32).toNatClampNeg (0 : Int32).toNatClampNeg (16 : Int32).toNatClampNeg)) (va_cpy (uD uo) (uD un) (0 : Int32).toNatClampNeg (0 : Int32).toNatClampNeg (16 : Int32).toNatClampNeg)) uo) H := va_P_eq hP s_UnC_5
  have hD : va_D A (wUnC cy a0 a1 a2 a3 a4 a5 b0 b1 b2 b3 b4 b5 (uD' (uQ' (uP' (uO' (uK' un (va_cpy (uK uo) (uK un) (0 : Int32).toNatClampNeg (0 : Int32).toNatClampNeg (16 : Int32).toNatClampNeg)) (va_cpy (uO uo) (uO un) (0 : Int32).toNatClampNeg (0 : Int32).toNatClampNeg (16 : Int32).toNatClampNeg)) (va_cpy (uP uo) (uP un) (0 : Int32).toNatClampNeg (0 : Int32).toNatClampNeg (16 : Int32).toNatClampNeg)) (va_cpy (uQ uo) (uQ un) (0 : Int32).toNatClampNeg (0 : Int32).toNatClampNeg (16 : Int32).toNatClampNeg)) (va_cpy (uD uo) (uD un) (0 : Int32).toNatClampNeg (0 : Int32).toNatClampNeg (16 : Int32).toNatClampNeg)) uo) := va_D_eq hD s_UnC_5
  refine lv_aload_n hx hb dX7_copyFrom_75 rfl (lv_at hl 0 rfl) ?_
  refine lv_aload_n hx hb dX7_copyFrom_76 rfl (lv_at hl 1 rfl) ?_
  refine va_get (D := D) (ci := 5) (v := .int (uN uo)) (C := RX7) (T := TX7) (N := 6) hx hb hts in_X7 hown hG.1 hP 6 g_UnC_6 rfl 5 (by decide) k_9 (fun _ h9 => h9) rfl dX7_copyFrom_77 ?_
  refine va_put (D := D) (ci := 5) (v := .int (uN uo)) (ty := .int) (C := RX7) (T := TX7) (N := 6) hx hb hts in_X7 tyX7 tyX7_ok nmX7 hown hG.1 hP hD hS 0 g_UnC_0 rfl 5 (by decide) k_9 (fun _ h9 => h9) rfl (by decide +kernel) rfl rfl (Nat.le_of_ble_eq_true rfl) dX7_copyFrom_80 (fun H locs hP hD hS => ?_)
  have hP : va_P D vwCl (wUnC cy a0 a1 a2 a3 a4 a5 b0 b1 b2 b3 b4 b5 (uN' (uD' (uQ' (uP' (uO' (uK' un (va_cpy (uK uo) (uK un) (0 : Int32).toNatClampNeg (0 : Int32).toNatClampNeg (16 : Int32).toNatClampNeg)) (va_cpy (uO uo) (uO un) (0 : Int32).toNatClampNeg (0 : Int32).toNatClampNeg (16 : Int32).toNatClampNeg)) (va_cpy (uP uo) (uP un) (0 : Int32).toNatClampNeg (0 : Int32).toNatClampNeg (16 : Int32).toNatClampNeg)) (va_cpy (uQ uo) (uQ un) (0 : Int32).toNatClampNeg (0 : Int32).toNatClampNeg (16 : Int32).toNatClampNeg)) (va_cpy (uD uo) (uD un) (0 : Int32).toNatClampNeg (0 : Int32).toNatClampNeg (16 : Int32).toNatClampNeg)) (uN uo)) uo) H := va_P_eq hP s_UnC_0_5
  have hD : va_D A (wUnC cy a0 a1 a2 a3 a4 a5 b0 b1 b2 b3 b4 b5 (uN' (uD' (uQ' (uP' (uO' (uK' un (va_cpy (uK uo) (uK un) (0 : Int32).toNatClampNeg (0 : Int32).toNatClampNeg (16 : Int32).toNatClampNeg)) (va_cpy (uO uo) (uO un) (0 : Int32).toNatClampNeg (0 : Int32).toNatClampNeg (16 : Int32).toNatClampNeg)) (va_cpy (uP uo) (uP un) (0 : Int32).toNatClampNeg (0 : Int32).toNatClampNeg (16 : Int32).toNatClampNeg)) (va_cpy (uQ uo) (uQ un) (0 : Int32).toNatClampNeg (0 : Int32).toNatClampNeg (16 : Int32).toNatClampNeg)) (va_cpy (uD uo) (uD un) (0 : Int32).toNatClampNeg (0 : Int32).toNatClampNeg (16 : Int32).toNatClampNeg)) (uN uo)) uo) := va_D_eq hD s_UnC_0_5
  exact mu_vret hx hb hr hlocks hP hS dX7_copyFrom_83 (by rw [m_X7_copyFrom])
def m_X0_copyFrom (co : CoT) (co2 : CoT) : CoT := cC' (cD' (cK' co (va_cpy (cK co2) (cK co) (0 : Int32).toNatClampNeg (0 : Int32).toNatClampNeg (30 : Int32).toNatClampNeg)) (va_cpy (cD co2) (cD co) (0 : Int32).toNatClampNeg (0 : Int32).toNatClampNeg (30 : Int32).toNatClampNeg)) (va_cpy (cC co2) (cC co) (0 : Int32).toNatClampNeg (0 : Int32).toNatClampNeg (5 : Int32).toNatClampNeg)
theorem hd_X0_copyFrom : yX0_copyFrom.cls = RX0 ∧ yX0_copyFrom.cls ≠ "java/lang/invoke/MethodHandle" ∧ yX0_copyFrom.cls ≠ "java/lang/invoke/VarHandle" ∧ (parseMethodDescriptor yX0_copyFrom.desc).map (fun d => d.parameters.length) = some 1 := by decide +kernel
set_option maxHeartbeats 8000000 in
set_option maxRecDepth 20000 in
theorem c_X0_copyFrom (l : Launch) (D : va_G) (cy : Nat → ClassId) (a0 a1 a2 a3 b0 b1 b2 b3 : Nat) (co : CoT) (co2 : CoT) : MV l D cy yX0_copyFrom wsX0_copyFrom ({ frames := 1, cells := 0, slots := 0, locals := 40 } : Room) (wCoC cy a0 a1 a2 a3 b0 b1 b2 b3 co co2) (wCoC cy a0 a1 a2 a3 b0 b1 b2 b3 (m_X0_copyFrom co co2) co2) [.ref a0, .ref b0] := by
  refine MV.body (by decide) rfl (Nat.le_of_ble_eq_true rfl) ?_
  intro p e s m below meth c hx hb hml hr hts hown hlocks hP hG ls hl A hD hA hS
  have hl : lv_has ls 2 [(0, .ref a0), (1, .ref b0)] := hl
  have hCF : CallFix p m c cX0_copyFrom 2 s ([.ref a0, .ref b0] : List Value).toArray wsX0_copyFrom RX0 := ⟨hx, hb, hml, hown, hts⟩
  have in_X0 : ∀ w ∈ u_ws RX0 TX0 3, w ∈ wsX0_copyFrom := fun _ h => List.mem_cons_of_mem _ (List.mem_append_right _ h)
  have k_0 := hts (Cond.fieldLink RX0 9 "SparePool$Cores" "kind" "[I") (List.mem_of_getElem? (i := 1) rfl)
  have k_1 := hts (Cond.methodLink RX0 21 arraycopyName) (List.mem_of_getElem? (i := 2) rfl)
  have k_2 := hts (Cond.native arraycopyName) (List.mem_of_getElem? (i := 3) rfl)
  have k_3 := hts (Cond.static arraycopyName) (List.mem_of_getElem? (i := 4) rfl)
  have k_4 := hts (Cond.initialized "java/lang/System") (List.mem_of_getElem? (i := 5) rfl)
  have k_5 := hts (Cond.fieldLink RX0 15 "SparePool$Cores" "due" "[I") (List.mem_of_getElem? (i := 6) rfl)
  have k_6 := hts (Cond.fieldLink RX0 18 "SparePool$Cores" "count" "[I") (List.mem_of_getElem? (i := 7) rfl)
  have hP : va_P D vwCl (wCoC cy a0 a1 a2 a3 b0 b1 b2 b3 co co2) s.heap := hP
  refine lv_aload_n hx hb dX0_copyFrom_0 rfl (lv_at hl 1 rfl) ?_
  refine va_get (D := D) (ci := 0) (v := .ref b1) (C := RX0) (T := TX0) (N := 3) hx hb hts in_X0 hown hG.1 hP 4 g_CoC_4 rfl 0 (by decide) k_0 (fun _ h9 => h9) rfl dX0_copyFrom_1 ?_
  refine lv_iconst (v := (0 : Int32)) hx hb dX0_copyFrom_4 (by decide) ?_
  refine lv_aload_n hx hb dX0_copyFrom_5 rfl (lv_at hl 0 rfl) ?_
  refine va_get (D := D) (ci := 0) (v := .ref a1) (C := RX0) (T := TX0) (N := 3) hx hb hts in_X0 hown hG.1 hP 0 g_CoC_0 rfl 0 (by decide) k_0 (fun _ h9 => h9) rfl dX0_copyFrom_6 ?_
  refine lv_iconst (v := (0 : Int32)) hx hb dX0_copyFrom_9 (by decide) ?_
  refine lv_bipush (v := (30 : Int32)) hx hb dX0_copyFrom_10 (by decide) ?_
  refine va_copyi hx hb (hml.trans hl.1.symm) hown k_1 k_2 k_3 k_4 hG.1 hP hD hS 5 1 0 0 (f := (cK co2)) (g := (cK co)) (ty := .int) g_CoC_5 g_CoC_1 rfl rfl rfl (by decide) (by decide) (by decide) (by decide) (by decide) (fun _ _ => rfl) (Nat.le_of_ble_eq_true rfl) (Nat.le_of_ble_eq_true rfl) dX0_copyFrom_12 (fun H locs hP hD hS => ?_)
  have hP : va_P D vwCl (wCoC cy a0 a1 a2 a3 b0 b1 b2 b3 (cK' co (va_cpy (cK co2) (cK co) (0 : Int32).toNatClampNeg (0 : Int32).toNatClampNeg (30 : Int32).toNatClampNeg)) co2) H := va_P_eq hP s_CoC_1
  have hD : va_D A (wCoC cy a0 a1 a2 a3 b0 b1 b2 b3 (cK' co (va_cpy (cK co2) (cK co) (0 : Int32).toNatClampNeg (0 : Int32).toNatClampNeg (30 : Int32).toNatClampNeg)) co2) := va_D_eq hD s_CoC_1
  refine lv_aload_n hx hb dX0_copyFrom_15 rfl (lv_at hl 1 rfl) ?_
  refine va_get (D := D) (ci := 0) (v := .ref b2) (C := RX0) (T := TX0) (N := 3) hx hb hts in_X0 hown hG.1 hP 4 g_CoC_4 rfl 1 (by decide) k_5 (fun _ h9 => h9) rfl dX0_copyFrom_16 ?_
  refine lv_iconst (v := (0 : Int32)) hx hb dX0_copyFrom_19 (by decide) ?_
  refine lv_aload_n hx hb dX0_copyFrom_20 rfl (lv_at hl 0 rfl) ?_
  refine va_get (D := D) (ci := 0) (v := .ref a2) (C := RX0) (T := TX0) (N := 3) hx hb hts in_X0 hown hG.1 hP 0 g_CoC_0 rfl 1 (by decide) k_5 (fun _ h9 => h9) rfl dX0_copyFrom_21 ?_
  refine lv_iconst (v := (0 : Int32)) hx hb dX0_copyFrom_24 (by decide) ?_
  refine lv_bipush (v := (30 : Int32)) hx hb dX0_copyFrom_25 (by decide) ?_
  refine va_copyi hx hb (hml.trans hl.1.symm) hown k_1 k_2 k_3 k_4 hG.1 hP hD hS 6 2 0 0 (f := (cD co2)) (g := (cD co)) (ty := .int) g_CoC_6 g_CoC_2 rfl rfl rfl (by decide) (by decide) (by decide) (by decide) (by decide) (fun _ _ => rfl) (Nat.le_of_ble_eq_true rfl) (Nat.le_of_ble_eq_true rfl) dX0_copyFrom_27 (fun H locs hP hD hS => ?_)
  have hP : va_P D vwCl (wCoC cy a0 a1 a2 a3 b0 b1 b2 b3 (cD' (cK' co (va_cpy (cK co2) (cK co) (0 : Int32).toNatClampNeg (0 : Int32).toNatClampNeg (30 : Int32).toNatClampNeg)) (va_cpy (cD co2) (cD co) (0 : Int32).toNatClampNeg (0 : Int32).toNatClampNeg (30 : Int32).toNatClampNeg)) co2) H := va_P_eq hP s_CoC_2
  have hD : va_D A (wCoC cy a0 a1 a2 a3 b0 b1 b2 b3 (cD' (cK' co (va_cpy (cK co2) (cK co) (0 : Int32).toNatClampNeg (0 : Int32).toNatClampNeg (30 : Int32).toNatClampNeg)) (va_cpy (cD co2) (cD co) (0 : Int32).toNatClampNeg (0 : Int32).toNatClampNeg (30 : Int32).toNatClampNeg)) co2) := va_D_eq hD s_CoC_2
  refine lv_aload_n hx hb dX0_copyFrom_30 rfl (lv_at hl 1 rfl) ?_
  refine va_get (D := D) (ci := 0) (v := .ref b3) (C := RX0) (T := TX0) (N := 3) hx hb hts in_X0 hown hG.1 hP 4 g_CoC_4 rfl 2 (by decide) k_6 (fun _ h9 => h9) rfl dX0_copyFrom_31 ?_
  refine lv_iconst (v := (0 : Int32)) hx hb dX0_copyFrom_34 (by decide) ?_
  refine lv_aload_n hx hb dX0_copyFrom_35 rfl (lv_at hl 0 rfl) ?_
  refine va_get (D := D) (ci := 0) (v := .ref a3) (C := RX0) (T := TX0) (N := 3) hx hb hts in_X0 hown hG.1 hP 0 g_CoC_0 rfl 2 (by decide) k_6 (fun _ h9 => h9) rfl dX0_copyFrom_36 ?_
  refine lv_iconst (v := (0 : Int32)) hx hb dX0_copyFrom_39 (by decide) ?_
  refine lv_iconst (v := (5 : Int32)) hx hb dX0_copyFrom_40 (by decide) ?_
  refine va_copyi hx hb (hml.trans hl.1.symm) hown k_1 k_2 k_3 k_4 hG.1 hP hD hS 7 3 0 0 (f := (cC co2)) (g := (cC co)) (ty := .int) g_CoC_7 g_CoC_3 rfl rfl rfl (by decide) (by decide) (by decide) (by decide) (by decide) (fun _ _ => rfl) (Nat.le_of_ble_eq_true rfl) (Nat.le_of_ble_eq_true rfl) dX0_copyFrom_41 (fun H locs hP hD hS => ?_)
  have hP : va_P D vwCl (wCoC cy a0 a1 a2 a3 b0 b1 b2 b3 (cC' (cD' (cK' co (va_cpy (cK co2) (cK co) (0 : Int32).toNatClampNeg (0 : Int32).toNatClampNeg (30 : Int32).toNatClampNeg)) (va_cpy (cD co2) (cD co) (0 : Int32).toNatClampNeg (0 : Int32).toNatClampNeg (30 : Int32).toNatClampNeg)) (va_cpy (cC co2) (cC co) (0 : Int32).toNatClampNeg (0 : Int32).toNatClampNeg (5 : Int32).toNatClampNeg)) co2) H := va_P_eq hP s_CoC_3
  have hD : va_D A (wCoC cy a0 a1 a2 a3 b0 b1 b2 b3 (cC' (cD' (cK' co (va_cpy (cK co2) (cK co) (0 : Int32).toNatClampNeg (0 : Int32).toNatClampNeg (30 : Int32).toNatClampNeg)) (va_cpy (cD co2) (cD co) (0 : Int32).toNatClampNeg (0 : Int32).toNatClampNeg (30 : Int32).toNatClampNeg)) (va_cpy (cC co2) (cC co) (0 : Int32).toNatClampNeg (0 : Int32).toNatClampNeg (5 : Int32).toNatClampNeg)) co2) := va_D_eq hD s_CoC_3
  exact mu_vret hx hb hr hlocks hP hS dX0_copyFrom_44 (by rw [m_X0_copyFrom])
def m_X1_copyFrom (de : (Nat → Int32)) (de2 : (Nat → Int32)) : (Nat → Int32) := va_cpy de2 de (0 : Int32).toNatClampNeg (0 : Int32).toNatClampNeg (225 : Int32).toNatClampNeg
theorem hd_X1_copyFrom : yX1_copyFrom.cls = RX1 ∧ yX1_copyFrom.cls ≠ "java/lang/invoke/MethodHandle" ∧ yX1_copyFrom.cls ≠ "java/lang/invoke/VarHandle" ∧ (parseMethodDescriptor yX1_copyFrom.desc).map (fun d => d.parameters.length) = some 1 := by decide +kernel
set_option maxHeartbeats 8000000 in
set_option maxRecDepth 20000 in
theorem c_X1_copyFrom (l : Launch) (D : va_G) (cy : Nat → ClassId) (a0 a1 b0 b1 : Nat) (de : (Nat → Int32)) (de2 : (Nat → Int32)) : MV l D cy yX1_copyFrom wsX1_copyFrom ({ frames := 1, cells := 0, slots := 0, locals := 40 } : Room) (wDeC cy a0 a1 b0 b1 de de2) (wDeC cy a0 a1 b0 b1 (m_X1_copyFrom de de2) de2) [.ref a0, .ref b0] := by
  refine MV.body (by decide) rfl (Nat.le_of_ble_eq_true rfl) ?_
  intro p e s m below meth c hx hb hml hr hts hown hlocks hP hG ls hl A hD hA hS
  have hl : lv_has ls 2 [(0, .ref a0), (1, .ref b0)] := hl
  have hCF : CallFix p m c cX1_copyFrom 2 s ([.ref a0, .ref b0] : List Value).toArray wsX1_copyFrom RX1 := ⟨hx, hb, hml, hown, hts⟩
  have in_X1 : ∀ w ∈ u_ws RX1 TX1 1, w ∈ wsX1_copyFrom := fun _ h => List.mem_cons_of_mem _ (List.mem_append_right _ h)
  have k_0 := hts (Cond.fieldLink RX1 11 "SparePool$Debts" "owing" "[I") (List.mem_of_getElem? (i := 1) rfl)
  have k_1 := hts (Cond.methodLink RX1 15 arraycopyName) (List.mem_of_getElem? (i := 2) rfl)
  have k_2 := hts (Cond.native arraycopyName) (List.mem_of_getElem? (i := 3) rfl)
  have k_3 := hts (Cond.static arraycopyName) (List.mem_of_getElem? (i := 4) rfl)
  have k_4 := hts (Cond.initialized "java/lang/System") (List.mem_of_getElem? (i := 5) rfl)
  have hP : va_P D vwCl (wDeC cy a0 a1 b0 b1 de de2) s.heap := hP
  refine lv_aload_n hx hb dX1_copyFrom_0 rfl (lv_at hl 1 rfl) ?_
  refine va_get (D := D) (ci := 1) (v := .ref b1) (C := RX1) (T := TX1) (N := 1) hx hb hts in_X1 hown hG.1 hP 2 g_DeC_2 rfl 0 (by decide) k_0 (fun _ h9 => h9) rfl dX1_copyFrom_1 ?_
  refine lv_iconst (v := (0 : Int32)) hx hb dX1_copyFrom_4 (by decide) ?_
  refine lv_aload_n hx hb dX1_copyFrom_5 rfl (lv_at hl 0 rfl) ?_
  refine va_get (D := D) (ci := 1) (v := .ref a1) (C := RX1) (T := TX1) (N := 1) hx hb hts in_X1 hown hG.1 hP 0 g_DeC_0 rfl 0 (by decide) k_0 (fun _ h9 => h9) rfl dX1_copyFrom_6 ?_
  refine lv_iconst (v := (0 : Int32)) hx hb dX1_copyFrom_9 (by decide) ?_
  refine lv_sipush (v := (225 : Int32)) hx hb dX1_copyFrom_10 (by decide) ?_
  refine va_copyi hx hb (hml.trans hl.1.symm) hown k_1 k_2 k_3 k_4 hG.1 hP hD hS 3 1 0 0 (f := de2) (g := de) (ty := .int) g_DeC_3 g_DeC_1 rfl rfl rfl (by decide) (by decide) (by decide) (by decide) (by decide) (fun _ _ => rfl) (Nat.le_of_ble_eq_true rfl) (Nat.le_of_ble_eq_true rfl) dX1_copyFrom_13 (fun H locs hP hD hS => ?_)
  have hP : va_P D vwCl (wDeC cy a0 a1 b0 b1 (va_cpy de2 de (0 : Int32).toNatClampNeg (0 : Int32).toNatClampNeg (225 : Int32).toNatClampNeg) de2) H := va_P_eq hP s_DeC_1
  have hD : va_D A (wDeC cy a0 a1 b0 b1 (va_cpy de2 de (0 : Int32).toNatClampNeg (0 : Int32).toNatClampNeg (225 : Int32).toNatClampNeg) de2) := va_D_eq hD s_DeC_1
  exact mu_vret hx hb hr hlocks hP hS dX1_copyFrom_16 (by rw [m_X1_copyFrom])
def m_X5_copyFrom (st : StT) (so : StT) : StT := sO' (sX' (sK' (sT' (sS' (sA' (sD' (sC' (sU' st (m_X7_copyFrom (sU st) (sU so))) (m_X0_copyFrom (sC st) (sC so))) (m_X1_copyFrom (sD st) (sD so))) (va_cpy (sA so) (sA st) (0 : Int32).toNatClampNeg (0 : Int32).toNatClampNeg (5 : Int32).toNatClampNeg)) (va_cpy (sS so) (sS st) (0 : Int32).toNatClampNeg (0 : Int32).toNatClampNeg (3 : Int32).toNatClampNeg)) (sT so)) (sK so)) (sX so)) (sO so)
theorem hd_X5_copyFrom : yX5_copyFrom.cls = RX5 ∧ yX5_copyFrom.cls ≠ "java/lang/invoke/MethodHandle" ∧ yX5_copyFrom.cls ≠ "java/lang/invoke/VarHandle" ∧ (parseMethodDescriptor yX5_copyFrom.desc).map (fun d => d.parameters.length) = some 1 := by decide +kernel
set_option maxHeartbeats 8000000 in
set_option maxRecDepth 20000 in
theorem c_X5_copyFrom (l : Launch) (D : va_G) (cy : Nat → ClassId) (a b : Nat → Nat) (st : StT) (so : StT) : MV l D cy yX5_copyFrom wsX5_copyFrom ({ frames := 2, cells := 0, slots := 0, locals := 61 } : Room) (wStC cy a b st so) (wStC cy a b (m_X5_copyFrom st so) so) [.ref (a 0), .ref (b 0)] := by
  refine MV.body (by decide) rfl (Nat.le_of_ble_eq_true rfl) ?_
  intro p e s m below meth c hx hb hml hr hts hown hlocks hP hG ls hl A hD hA hS
  have hl : lv_has ls 2 [(0, .ref (a 0)), (1, .ref (b 0))] := hl
  have hCF : CallFix p m c cX5_copyFrom 2 s ([.ref (a 0), .ref (b 0)] : List Value).toArray wsX5_copyFrom RX5 := ⟨hx, hb, hml, hown, hts⟩
  have in_X5 : ∀ w ∈ u_ws RX5 TX5 9, w ∈ wsX5_copyFrom := fun _ h => List.mem_cons_of_mem _ (List.mem_append_left _ (List.mem_append_left _ (List.mem_append_left _ (List.mem_append_right _ h))))
  have k_0 := hts (Cond.fieldLink RX5 12 "SparePool$State" "units" "LSparePool$Units;") (List.mem_of_getElem? (i := 1) rfl)
  have k_1 := hts (Cond.initialized RX7) (List.mem_of_getElem? (i := 15) rfl)
  have k_2 := hts (Cond.instanceMethod yX7_copyFrom) (List.mem_of_getElem? (i := 14) rfl)
  have k_3 := hts (Cond.selects RX7 yX7_copyFrom yX7_copyFrom) (List.mem_of_getElem? (i := 16) rfl)
  have k_4 := hts (Cond.fieldLink RX5 21 "SparePool$State" "cores" "LSparePool$Cores;") (List.mem_of_getElem? (i := 2) rfl)
  have k_5 := hts (Cond.initialized RX0) (List.mem_of_getElem? (i := 26) rfl)
  have k_6 := hts (Cond.instanceMethod yX0_copyFrom) (List.mem_of_getElem? (i := 25) rfl)
  have k_7 := hts (Cond.selects RX0 yX0_copyFrom yX0_copyFrom) (List.mem_of_getElem? (i := 27) rfl)
  have k_8 := hts (Cond.fieldLink RX5 28 "SparePool$State" "debts" "LSparePool$Debts;") (List.mem_of_getElem? (i := 3) rfl)
  have k_9 := hts (Cond.initialized RX1) (List.mem_of_getElem? (i := 34) rfl)
  have k_10 := hts (Cond.instanceMethod yX1_copyFrom) (List.mem_of_getElem? (i := 33) rfl)
  have k_11 := hts (Cond.selects RX1 yX1_copyFrom yX1_copyFrom) (List.mem_of_getElem? (i := 35) rfl)
  have k_12 := hts (Cond.fieldLink RX5 32 "SparePool$State" "account" "[I") (List.mem_of_getElem? (i := 4) rfl)
  have k_13 := hts (Cond.methodLink RX5 42 arraycopyName) (List.mem_of_getElem? (i := 5) rfl)
  have k_14 := hts (Cond.native arraycopyName) (List.mem_of_getElem? (i := 6) rfl)
  have k_15 := hts (Cond.static arraycopyName) (List.mem_of_getElem? (i := 7) rfl)
  have k_16 := hts (Cond.initialized "java/lang/System") (List.mem_of_getElem? (i := 8) rfl)
  have k_17 := hts (Cond.fieldLink RX5 36 "SparePool$State" "setting" "[I") (List.mem_of_getElem? (i := 9) rfl)
  have k_18 := hts (Cond.fieldLink RX5 56 "SparePool$State" "today" "I") (List.mem_of_getElem? (i := 10) rfl)
  have k_19 := hts (Cond.fieldLink RX5 59 "SparePool$State" "takenSoFar" "I") (List.mem_of_getElem? (i := 11) rfl)
  have k_20 := hts (Cond.fieldLink RX5 62 "SparePool$State" "exchangesSoFar" "I") (List.mem_of_getElem? (i := 12) rfl)
  have k_21 := hts (Cond.fieldLink RX5 65 "SparePool$State" "paidOutside" "I") (List.mem_of_getElem? (i := 13) rfl)
  have hP : va_P D vwCl (wStC cy a b st so) s.heap := hP
  refine lv_aload_n hx hb dX5_copyFrom_0 rfl (lv_at hl 0 rfl) ?_
  refine va_get (D := D) (ci := 3) (v := .ref (a 1)) (C := RX5) (T := TX5) (N := 9) hx hb hts in_X5 hown hG.1 hP 0 g_StC_0 rfl 0 (by decide) k_0 (fun _ h9 => h9) rfl dX5_copyFrom_1 ?_
  refine lv_aload_n hx hb dX5_copyFrom_4 rfl (lv_at hl 1 rfl) ?_
  refine va_get (D := D) (ci := 3) (v := .ref (b 1)) (C := RX5) (T := TX5) (N := 9) hx hb hts in_X5 hown hG.1 hP 15 g_StC_15 rfl 0 (by decide) k_0 (fun _ h9 => h9) rfl dX5_copyFrom_5 ?_
  refine mvVN (A0 := A) (wc := (wUnC cy (a 1) (a 2) (a 3) (a 4) (a 5) (a 6) (b 1) (b 2) (b 3) (b 4) (b 5) (b 6) (sU st) (sU so))) (As := [.ref (b 1)]) (rest := []) (c_X7_copyFrom l D cy (a 1) (a 2) (a 3) (a 4) (a 5) (a 6) (b 1) (b 2) (b 3) (b 4) (b 5) (b 6) (sU st) (sU so)) hCF gX5_copyFrom_X7_copyFrom_n68 (nw_X5_68 hG.2) k_1 k_2 k_3 rfl hd_X7_copyFrom ⟨rfl, rfl, Nat.le_of_ble_eq_true rfl, Nat.le_of_ble_eq_true rfl⟩ hG hP hD hS hA [1, 2, 3, 4, 5, 6, 16, 17, 18, 19, 20, 21] rfl c_StC_UnC_1_16 h_UnC (ci := 5) rfl rfl g_UnC_0 rfl hl.1 rfl (Nat.le_of_ble_eq_true rfl) dX5_copyFrom_8 ⟨Nat.le_refl _, Nat.le_refl _⟩ (fun H locs hP hD hS => ?_)
  have hP : va_P D vwCl (wStC cy a b (sU' st (m_X7_copyFrom (sU st) (sU so))) so) H := va_P_eq hP r_StC_UnC_1_16
  have hD : va_D A (wStC cy a b (sU' st (m_X7_copyFrom (sU st) (sU so))) so) := va_D_eq hD r_StC_UnC_1_16
  refine lv_aload_n hx hb dX5_copyFrom_11 rfl (lv_at hl 0 rfl) ?_
  refine va_get (D := D) (ci := 3) (v := .ref (a 7)) (C := RX5) (T := TX5) (N := 9) hx hb hts in_X5 hown hG.1 hP 0 g_StC_0 rfl 1 (by decide) k_4 (fun _ h9 => h9) rfl dX5_copyFrom_12 ?_
  refine lv_aload_n hx hb dX5_copyFrom_15 rfl (lv_at hl 1 rfl) ?_
  refine va_get (D := D) (ci := 3) (v := .ref (b 7)) (C := RX5) (T := TX5) (N := 9) hx hb hts in_X5 hown hG.1 hP 15 g_StC_15 rfl 1 (by decide) k_4 (fun _ h9 => h9) rfl dX5_copyFrom_16 ?_
  refine mvVN (A0 := A) (wc := (wCoC cy (a 7) (a 8) (a 9) (a 10) (b 7) (b 8) (b 9) (b 10) (sC st) (sC so))) (As := [.ref (b 7)]) (rest := []) (c_X0_copyFrom l D cy (a 7) (a 8) (a 9) (a 10) (b 7) (b 8) (b 9) (b 10) (sC st) (sC so)) hCF gX5_copyFrom_X0_copyFrom_n72 (nw_X5_72 hG.2) k_5 k_6 k_7 rfl hd_X0_copyFrom ⟨rfl, rfl, Nat.le_of_ble_eq_true rfl, Nat.le_of_ble_eq_true rfl⟩ hG hP hD hS hA [7, 8, 9, 10, 22, 23, 24, 25] rfl c_StC_CoC_7_22 h_CoC (ci := 0) rfl rfl g_CoC_0 rfl hl.1 rfl (Nat.le_of_ble_eq_true rfl) dX5_copyFrom_19 ⟨Nat.le_refl _, Nat.le_refl _⟩ (fun H locs hP hD hS => ?_)
  have hP : va_P D vwCl (wStC cy a b (sC' (sU' st (m_X7_copyFrom (sU st) (sU so))) (m_X0_copyFrom (sC st) (sC so))) so) H := va_P_eq hP r_StC_CoC_7_22
  have hD : va_D A (wStC cy a b (sC' (sU' st (m_X7_copyFrom (sU st) (sU so))) (m_X0_copyFrom (sC st) (sC so))) so) := va_D_eq hD r_StC_CoC_7_22
  refine lv_aload_n hx hb dX5_copyFrom_22 rfl (lv_at hl 0 rfl) ?_
  refine va_get (D := D) (ci := 3) (v := .ref (a 11)) (C := RX5) (T := TX5) (N := 9) hx hb hts in_X5 hown hG.1 hP 0 g_StC_0 rfl 2 (by decide) k_8 (fun _ h9 => h9) rfl dX5_copyFrom_23 ?_
  refine lv_aload_n hx hb dX5_copyFrom_26 rfl (lv_at hl 1 rfl) ?_
  refine va_get (D := D) (ci := 3) (v := .ref (b 11)) (C := RX5) (T := TX5) (N := 9) hx hb hts in_X5 hown hG.1 hP 15 g_StC_15 rfl 2 (by decide) k_8 (fun _ h9 => h9) rfl dX5_copyFrom_27 ?_
  refine mvVN (A0 := A) (wc := (wDeC cy (a 11) (a 12) (b 11) (b 12) (sD st) (sD so))) (As := [.ref (b 11)]) (rest := []) (c_X1_copyFrom l D cy (a 11) (a 12) (b 11) (b 12) (sD st) (sD so)) hCF gX5_copyFrom_X1_copyFrom_n75 (nw_X5_75 hG.2) k_9 k_10 k_11 rfl hd_X1_copyFrom ⟨rfl, rfl, Nat.le_of_ble_eq_true rfl, Nat.le_of_ble_eq_true rfl⟩ hG hP hD hS hA [11, 12, 26, 27] rfl c_StC_DeC_11_26 h_DeC (ci := 1) rfl rfl g_DeC_0 rfl hl.1 rfl (Nat.le_of_ble_eq_true rfl) dX5_copyFrom_30 ⟨Nat.le_refl _, Nat.le_refl _⟩ (fun H locs hP hD hS => ?_)
  have hP : va_P D vwCl (wStC cy a b (sD' (sC' (sU' st (m_X7_copyFrom (sU st) (sU so))) (m_X0_copyFrom (sC st) (sC so))) (m_X1_copyFrom (sD st) (sD so))) so) H := va_P_eq hP r_StC_DeC_11_26
  have hD : va_D A (wStC cy a b (sD' (sC' (sU' st (m_X7_copyFrom (sU st) (sU so))) (m_X0_copyFrom (sC st) (sC so))) (m_X1_copyFrom (sD st) (sD so))) so) := va_D_eq hD r_StC_DeC_11_26
  refine lv_aload_n hx hb dX5_copyFrom_33 rfl (lv_at hl 1 rfl) ?_
  refine va_get (D := D) (ci := 3) (v := .ref (b 13)) (C := RX5) (T := TX5) (N := 9) hx hb hts in_X5 hown hG.1 hP 15 g_StC_15 rfl 3 (by decide) k_12 (fun _ h9 => h9) rfl dX5_copyFrom_34 ?_
  refine lv_iconst (v := (0 : Int32)) hx hb dX5_copyFrom_37 (by decide) ?_
  refine lv_aload_n hx hb dX5_copyFrom_38 rfl (lv_at hl 0 rfl) ?_
  refine va_get (D := D) (ci := 3) (v := .ref (a 13)) (C := RX5) (T := TX5) (N := 9) hx hb hts in_X5 hown hG.1 hP 0 g_StC_0 rfl 3 (by decide) k_12 (fun _ h9 => h9) rfl dX5_copyFrom_39 ?_
  refine lv_iconst (v := (0 : Int32)) hx hb dX5_copyFrom_42 (by decide) ?_
  refine lv_iconst (v := (5 : Int32)) hx hb dX5_copyFrom_43 (by decide) ?_
  refine va_copyi hx hb (hml.trans hl.1.symm) hown k_13 k_14 k_15 k_16 hG.1 hP hD hS 28 13 0 0 (f := (sA so)) (g := (sA st)) (ty := .int) g_StC_28 g_StC_13 rfl rfl rfl (by decide) (by decide) (by decide) (by decide) (by decide) (fun _ _ => rfl) (Nat.le_of_ble_eq_true rfl) (Nat.le_of_ble_eq_true rfl) dX5_copyFrom_44 (fun H locs hP hD hS => ?_)
  have hP : va_P D vwCl (wStC cy a b (sA' (sD' (sC' (sU' st (m_X7_copyFrom (sU st) (sU so))) (m_X0_copyFrom (sC st) (sC so))) (m_X1_copyFrom (sD st) (sD so))) (va_cpy (sA so) (sA st) (0 : Int32).toNatClampNeg (0 : Int32).toNatClampNeg (5 : Int32).toNatClampNeg)) so) H := va_P_eq hP s_StC_13
  have hD : va_D A (wStC cy a b (sA' (sD' (sC' (sU' st (m_X7_copyFrom (sU st) (sU so))) (m_X0_copyFrom (sC st) (sC so))) (m_X1_copyFrom (sD st) (sD so))) (va_cpy (sA so) (sA st) (0 : Int32).toNatClampNeg (0 : Int32).toNatClampNeg (5 : Int32).toNatClampNeg)) so) := va_D_eq hD s_StC_13
  refine lv_aload_n hx hb dX5_copyFrom_47 rfl (lv_at hl 1 rfl) ?_
  refine va_get (D := D) (ci := 3) (v := .ref (b 14)) (C := RX5) (T := TX5) (N := 9) hx hb hts in_X5 hown hG.1 hP 15 g_StC_15 rfl 4 (by decide) k_17 (fun _ h9 => h9) rfl dX5_copyFrom_48 ?_
  refine lv_iconst (v := (0 : Int32)) hx hb dX5_copyFrom_51 (by decide) ?_
  refine lv_aload_n hx hb dX5_copyFrom_52 rfl (lv_at hl 0 rfl) ?_
  refine va_get (D := D) (ci := 3) (v := .ref (a 14)) (C := RX5) (T := TX5) (N := 9) hx hb hts in_X5 hown hG.1 hP 0 g_StC_0 rfl 4 (by decide) k_17 (fun _ h9 => h9) rfl dX5_copyFrom_53 ?_
  refine lv_iconst (v := (0 : Int32)) hx hb dX5_copyFrom_56 (by decide) ?_
  refine lv_iconst (v := (3 : Int32)) hx hb dX5_copyFrom_57 (by decide) ?_
  refine va_copyi hx hb (hml.trans hl.1.symm) hown k_13 k_14 k_15 k_16 hG.1 hP hD hS 29 14 0 0 (f := (sS so)) (g := (sS st)) (ty := .int) g_StC_29 g_StC_14 rfl rfl rfl (by decide) (by decide) (by decide) (by decide) (by decide) (fun _ _ => rfl) (Nat.le_of_ble_eq_true rfl) (Nat.le_of_ble_eq_true rfl) dX5_copyFrom_58 (fun H locs hP hD hS => ?_)
  have hP : va_P D vwCl (wStC cy a b (sS' (sA' (sD' (sC' (sU' st (m_X7_copyFrom (sU st) (sU so))) (m_X0_copyFrom (sC st) (sC so))) (m_X1_copyFrom (sD st) (sD so))) (va_cpy (sA so) (sA st) (0 : Int32).toNatClampNeg (0 : Int32).toNatClampNeg (5 : Int32).toNatClampNeg)) (va_cpy (sS so) (sS st) (0 : Int32).toNatClampNeg (0 : Int32).toNatClampNeg (3 : Int32).toNatClampNeg)) so) H := va_P_eq hP s_StC_14
  have hD : va_D A (wStC cy a b (sS' (sA' (sD' (sC' (sU' st (m_X7_copyFrom (sU st) (sU so))) (m_X0_copyFrom (sC st) (sC so))) (m_X1_copyFrom (sD st) (sD so))) (va_cpy (sA so) (sA st) (0 : Int32).toNatClampNeg (0 : Int32).toNatClampNeg (5 : Int32).toNatClampNeg)) (va_cpy (sS so) (sS st) (0 : Int32).toNatClampNeg (0 : Int32).toNatClampNeg (3 : Int32).toNatClampNeg)) so) := va_D_eq hD s_StC_14
  refine lv_aload_n hx hb dX5_copyFrom_61 rfl (lv_at hl 0 rfl) ?_
  refine lv_aload_n hx hb dX5_copyFrom_62 rfl (lv_at hl 1 rfl) ?_
  refine va_get (D := D) (ci := 3) (v := .int (sT so)) (C := RX5) (T := TX5) (N := 9) hx hb hts in_X5 hown hG.1 hP 15 g_StC_15 rfl 5 (by decide) k_18 (fun _ h9 => h9) rfl dX5_copyFrom_63 ?_
  refine va_put (D := D) (ci := 3) (v := .int (sT so)) (ty := .int) (C := RX5) (T := TX5) (N := 9) hx hb hts in_X5 tyX5 tyX5_ok nmX5 hown hG.1 hP hD hS 0 g_StC_0 rfl 5 (by decide) k_18 (fun _ h9 => h9) rfl (by decide +kernel) rfl rfl (Nat.le_of_ble_eq_true rfl) dX5_copyFrom_66 (fun H locs hP hD hS => ?_)
  have hP : va_P D vwCl (wStC cy a b (sT' (sS' (sA' (sD' (sC' (sU' st (m_X7_copyFrom (sU st) (sU so))) (m_X0_copyFrom (sC st) (sC so))) (m_X1_copyFrom (sD st) (sD so))) (va_cpy (sA so) (sA st) (0 : Int32).toNatClampNeg (0 : Int32).toNatClampNeg (5 : Int32).toNatClampNeg)) (va_cpy (sS so) (sS st) (0 : Int32).toNatClampNeg (0 : Int32).toNatClampNeg (3 : Int32).toNatClampNeg)) (sT so)) so) H := va_P_eq hP s_StC_0_5
  have hD : va_D A (wStC cy a b (sT' (sS' (sA' (sD' (sC' (sU' st (m_X7_copyFrom (sU st) (sU so))) (m_X0_copyFrom (sC st) (sC so))) (m_X1_copyFrom (sD st) (sD so))) (va_cpy (sA so) (sA st) (0 : Int32).toNatClampNeg (0 : Int32).toNatClampNeg (5 : Int32).toNatClampNeg)) (va_cpy (sS so) (sS st) (0 : Int32).toNatClampNeg (0 : Int32).toNatClampNeg (3 : Int32).toNatClampNeg)) (sT so)) so) := va_D_eq hD s_StC_0_5
  refine lv_aload_n hx hb dX5_copyFrom_69 rfl (lv_at hl 0 rfl) ?_
  refine lv_aload_n hx hb dX5_copyFrom_70 rfl (lv_at hl 1 rfl) ?_
  refine va_get (D := D) (ci := 3) (v := .int (sK so)) (C := RX5) (T := TX5) (N := 9) hx hb hts in_X5 hown hG.1 hP 15 g_StC_15 rfl 6 (by decide) k_19 (fun _ h9 => h9) rfl dX5_copyFrom_71 ?_
  refine va_put (D := D) (ci := 3) (v := .int (sK so)) (ty := .int) (C := RX5) (T := TX5) (N := 9) hx hb hts in_X5 tyX5 tyX5_ok nmX5 hown hG.1 hP hD hS 0 g_StC_0 rfl 6 (by decide) k_19 (fun _ h9 => h9) rfl (by decide +kernel) rfl rfl (Nat.le_of_ble_eq_true rfl) dX5_copyFrom_74 (fun H locs hP hD hS => ?_)
  have hP : va_P D vwCl (wStC cy a b (sK' (sT' (sS' (sA' (sD' (sC' (sU' st (m_X7_copyFrom (sU st) (sU so))) (m_X0_copyFrom (sC st) (sC so))) (m_X1_copyFrom (sD st) (sD so))) (va_cpy (sA so) (sA st) (0 : Int32).toNatClampNeg (0 : Int32).toNatClampNeg (5 : Int32).toNatClampNeg)) (va_cpy (sS so) (sS st) (0 : Int32).toNatClampNeg (0 : Int32).toNatClampNeg (3 : Int32).toNatClampNeg)) (sT so)) (sK so)) so) H := va_P_eq hP s_StC_0_6
  have hD : va_D A (wStC cy a b (sK' (sT' (sS' (sA' (sD' (sC' (sU' st (m_X7_copyFrom (sU st) (sU so))) (m_X0_copyFrom (sC st) (sC so))) (m_X1_copyFrom (sD st) (sD so))) (va_cpy (sA so) (sA st) (0 : Int32).toNatClampNeg (0 : Int32).toNatClampNeg (5 : Int32).toNatClampNeg)) (va_cpy (sS so) (sS st) (0 : Int32).toNatClampNeg (0 : Int32).toNatClampNeg (3 : Int32).toNatClampNeg)) (sT so)) (sK so)) so) := va_D_eq hD s_StC_0_6
  refine lv_aload_n hx hb dX5_copyFrom_77 rfl (lv_at hl 0 rfl) ?_
  refine lv_aload_n hx hb dX5_copyFrom_78 rfl (lv_at hl 1 rfl) ?_
  refine va_get (D := D) (ci := 3) (v := .int (sX so)) (C := RX5) (T := TX5) (N := 9) hx hb hts in_X5 hown hG.1 hP 15 g_StC_15 rfl 7 (by decide) k_20 (fun _ h9 => h9) rfl dX5_copyFrom_79 ?_
  refine va_put (D := D) (ci := 3) (v := .int (sX so)) (ty := .int) (C := RX5) (T := TX5) (N := 9) hx hb hts in_X5 tyX5 tyX5_ok nmX5 hown hG.1 hP hD hS 0 g_StC_0 rfl 7 (by decide) k_20 (fun _ h9 => h9) rfl (by decide +kernel) rfl rfl (Nat.le_of_ble_eq_true rfl) dX5_copyFrom_82 (fun H locs hP hD hS => ?_)
  have hP : va_P D vwCl (wStC cy a b (sX' (sK' (sT' (sS' (sA' (sD' (sC' (sU' st (m_X7_copyFrom (sU st) (sU so))) (m_X0_copyFrom (sC st) (sC so))) (m_X1_copyFrom (sD st) (sD so))) (va_cpy (sA so) (sA st) (0 : Int32).toNatClampNeg (0 : Int32).toNatClampNeg (5 : Int32).toNatClampNeg)) (va_cpy (sS so) (sS st) (0 : Int32).toNatClampNeg (0 : Int32).toNatClampNeg (3 : Int32).toNatClampNeg)) (sT so)) (sK so)) (sX so)) so) H := va_P_eq hP s_StC_0_7
  have hD : va_D A (wStC cy a b (sX' (sK' (sT' (sS' (sA' (sD' (sC' (sU' st (m_X7_copyFrom (sU st) (sU so))) (m_X0_copyFrom (sC st) (sC so))) (m_X1_copyFrom (sD st) (sD so))) (va_cpy (sA so) (sA st) (0 : Int32).toNatClampNeg (0 : Int32).toNatClampNeg (5 : Int32).toNatClampNeg)) (va_cpy (sS so) (sS st) (0 : Int32).toNatClampNeg (0 : Int32).toNatClampNeg (3 : Int32).toNatClampNeg)) (sT so)) (sK so)) (sX so)) so) := va_D_eq hD s_StC_0_7
  refine lv_aload_n hx hb dX5_copyFrom_85 rfl (lv_at hl 0 rfl) ?_
  refine lv_aload_n hx hb dX5_copyFrom_86 rfl (lv_at hl 1 rfl) ?_
  refine va_get (D := D) (ci := 3) (v := .int (sO so)) (C := RX5) (T := TX5) (N := 9) hx hb hts in_X5 hown hG.1 hP 15 g_StC_15 rfl 8 (by decide) k_21 (fun _ h9 => h9) rfl dX5_copyFrom_87 ?_
  refine va_put (D := D) (ci := 3) (v := .int (sO so)) (ty := .int) (C := RX5) (T := TX5) (N := 9) hx hb hts in_X5 tyX5 tyX5_ok nmX5 hown hG.1 hP hD hS 0 g_StC_0 rfl 8 (by decide) k_21 (fun _ h9 => h9) rfl (by decide +kernel) rfl rfl (Nat.le_of_ble_eq_true rfl) dX5_copyFrom_90 (fun H locs hP hD hS => ?_)
  have hP : va_P D vwCl (wStC cy a b (sO' (sX' (sK' (sT' (sS' (sA' (sD' (sC' (sU' st (m_X7_copyFrom (sU st) (sU so))) (m_X0_copyFrom (sC st) (sC so))) (m_X1_copyFrom (sD st) (sD so))) (va_cpy (sA so) (sA st) (0 : Int32).toNatClampNeg (0 : Int32).toNatClampNeg (5 : Int32).toNatClampNeg)) (va_cpy (sS so) (sS st) (0 : Int32).toNatClampNeg (0 : Int32).toNatClampNeg (3 : Int32).toNatClampNeg)) (sT so)) (sK so)) (sX so)) (sO so)) so) H := va_P_eq hP s_StC_0_8
  have hD : va_D A (wStC cy a b (sO' (sX' (sK' (sT' (sS' (sA' (sD' (sC' (sU' st (m_X7_copyFrom (sU st) (sU so))) (m_X0_copyFrom (sC st) (sC so))) (m_X1_copyFrom (sD st) (sD so))) (va_cpy (sA so) (sA st) (0 : Int32).toNatClampNeg (0 : Int32).toNatClampNeg (5 : Int32).toNatClampNeg)) (va_cpy (sS so) (sS st) (0 : Int32).toNatClampNeg (0 : Int32).toNatClampNeg (3 : Int32).toNatClampNeg)) (sT so)) (sK so)) (sX so)) (sO so)) so) := va_D_eq hD s_StC_0_8
  exact mu_vret hx hb hr hlocks hP hS dX5_copyFrom_93 (by rw [m_X5_copyFrom])
