theorem va_P_eq {D : va_G} {cl : List vw_C} {w w2 : va_W} {H : Heap} (h : va_P D cl w H) (e : w = w2) : va_P D cl w2 H := e ▸ h
theorem va_D_eq {A : Nat → Prop} {w w2 : va_W} (h : va_D A w) (e : w = w2) : va_D A w2 := e ▸ h
theorem g_Un_0 {cy : Nat → ClassId} {a0 a1 a2 a3 a4 a5 : Nat} {un : UnT} : (wUn cy a0 a1 a2 a3 a4 a5 un)[0]? = some (a0, .inr (5, [.ref a1, .ref a2, .ref a3, .ref a4, .ref a5, .int (uN un)])) := rfl
theorem s_Un_0_5 {cy : Nat → ClassId} {a0 a1 a2 a3 a4 a5 : Nat} {un : UnT} {v : Int32} : (wUn cy a0 a1 a2 a3 a4 a5 un).set 0 (a0, .inr (5, List.set [.ref a1, .ref a2, .ref a3, .ref a4, .ref a5, .int (uN un)] 5 (.int v))) = (wUn cy a0 a1 a2 a3 a4 a5 (uN' un v)) := rfl
theorem g_Un_1 {cy : Nat → ClassId} {a0 a1 a2 a3 a4 a5 : Nat} {un : UnT} : (wUn cy a0 a1 a2 a3 a4 a5 un)[1]? = some (a1, .inl (cy 0, 16, .inl (uK un))) := rfl
theorem s_Un_1 {cy : Nat → ClassId} {a0 a1 a2 a3 a4 a5 : Nat} {un : UnT} {f : Nat → Int32} : (wUn cy a0 a1 a2 a3 a4 a5 un).set 1 (a1, .inl (cy 0, 16, .inl f)) = (wUn cy a0 a1 a2 a3 a4 a5 (uK' un f)) := rfl
theorem g_Un_2 {cy : Nat → ClassId} {a0 a1 a2 a3 a4 a5 : Nat} {un : UnT} : (wUn cy a0 a1 a2 a3 a4 a5 un)[2]? = some (a2, .inl (cy 0, 16, .inl (uO un))) := rfl
theorem s_Un_2 {cy : Nat → ClassId} {a0 a1 a2 a3 a4 a5 : Nat} {un : UnT} {f : Nat → Int32} : (wUn cy a0 a1 a2 a3 a4 a5 un).set 2 (a2, .inl (cy 0, 16, .inl f)) = (wUn cy a0 a1 a2 a3 a4 a5 (uO' un f)) := rfl
theorem g_Un_3 {cy : Nat → ClassId} {a0 a1 a2 a3 a4 a5 : Nat} {un : UnT} : (wUn cy a0 a1 a2 a3 a4 a5 un)[3]? = some (a3, .inl (cy 0, 16, .inl (uP un))) := rfl
theorem s_Un_3 {cy : Nat → ClassId} {a0 a1 a2 a3 a4 a5 : Nat} {un : UnT} {f : Nat → Int32} : (wUn cy a0 a1 a2 a3 a4 a5 un).set 3 (a3, .inl (cy 0, 16, .inl f)) = (wUn cy a0 a1 a2 a3 a4 a5 (uP' un f)) := rfl
theorem g_Un_4 {cy : Nat → ClassId} {a0 a1 a2 a3 a4 a5 : Nat} {un : UnT} : (wUn cy a0 a1 a2 a3 a4 a5 un)[4]? = some (a4, .inl (cy 0, 16, .inl (uQ un))) := rfl
theorem s_Un_4 {cy : Nat → ClassId} {a0 a1 a2 a3 a4 a5 : Nat} {un : UnT} {f : Nat → Int32} : (wUn cy a0 a1 a2 a3 a4 a5 un).set 4 (a4, .inl (cy 0, 16, .inl f)) = (wUn cy a0 a1 a2 a3 a4 a5 (uQ' un f)) := rfl
theorem g_Un_5 {cy : Nat → ClassId} {a0 a1 a2 a3 a4 a5 : Nat} {un : UnT} : (wUn cy a0 a1 a2 a3 a4 a5 un)[5]? = some (a5, .inl (cy 0, 16, .inl (uD un))) := rfl
theorem s_Un_5 {cy : Nat → ClassId} {a0 a1 a2 a3 a4 a5 : Nat} {un : UnT} {f : Nat → Int32} : (wUn cy a0 a1 a2 a3 a4 a5 un).set 5 (a5, .inl (cy 0, 16, .inl f)) = (wUn cy a0 a1 a2 a3 a4 a5 (uD' un f)) := rfl
theorem h_Un {cy : Nat → ClassId} {a0 a1 a2 a3 a4 a5 : Nat} {z z2 : UnT} : (wUn cy a0 a1 a2 a3 a4 a5 z2).map Prod.fst = (wUn cy a0 a1 a2 a3 a4 a5 z).map Prod.fst := rfl
theorem c_Un_Un {cy : Nat → ClassId} {a0 a1 a2 a3 a4 a5 : Nat} {z : UnT} : [0, 1, 2, 3, 4, 5].map (fun i => (wUn cy a0 a1 a2 a3 a4 a5 z)[i]?) = (wUn cy a0 a1 a2 a3 a4 a5 z).map some := rfl
theorem r_Un_Un {cy : Nat → ClassId} {a0 a1 a2 a3 a4 a5 : Nat} {z z2 : UnT} : va_rep [0, 1, 2, 3, 4, 5] (wUn cy a0 a1 a2 a3 a4 a5 z2) (wUn cy a0 a1 a2 a3 a4 a5 z) = wUn cy a0 a1 a2 a3 a4 a5 z2 := rfl
theorem g_Co_0 {cy : Nat → ClassId} {a0 a1 a2 a3 : Nat} {co : CoT} : (wCo cy a0 a1 a2 a3 co)[0]? = some (a0, .inr (0, [.ref a1, .ref a2, .ref a3])) := rfl
theorem g_Co_1 {cy : Nat → ClassId} {a0 a1 a2 a3 : Nat} {co : CoT} : (wCo cy a0 a1 a2 a3 co)[1]? = some (a1, .inl (cy 0, 30, .inl (cK co))) := rfl
theorem s_Co_1 {cy : Nat → ClassId} {a0 a1 a2 a3 : Nat} {co : CoT} {f : Nat → Int32} : (wCo cy a0 a1 a2 a3 co).set 1 (a1, .inl (cy 0, 30, .inl f)) = (wCo cy a0 a1 a2 a3 (cK' co f)) := rfl
theorem g_Co_2 {cy : Nat → ClassId} {a0 a1 a2 a3 : Nat} {co : CoT} : (wCo cy a0 a1 a2 a3 co)[2]? = some (a2, .inl (cy 0, 30, .inl (cD co))) := rfl
theorem s_Co_2 {cy : Nat → ClassId} {a0 a1 a2 a3 : Nat} {co : CoT} {f : Nat → Int32} : (wCo cy a0 a1 a2 a3 co).set 2 (a2, .inl (cy 0, 30, .inl f)) = (wCo cy a0 a1 a2 a3 (cD' co f)) := rfl
theorem g_Co_3 {cy : Nat → ClassId} {a0 a1 a2 a3 : Nat} {co : CoT} : (wCo cy a0 a1 a2 a3 co)[3]? = some (a3, .inl (cy 0, 5, .inl (cC co))) := rfl
theorem s_Co_3 {cy : Nat → ClassId} {a0 a1 a2 a3 : Nat} {co : CoT} {f : Nat → Int32} : (wCo cy a0 a1 a2 a3 co).set 3 (a3, .inl (cy 0, 5, .inl f)) = (wCo cy a0 a1 a2 a3 (cC' co f)) := rfl
theorem h_Co {cy : Nat → ClassId} {a0 a1 a2 a3 : Nat} {z z2 : CoT} : (wCo cy a0 a1 a2 a3 z2).map Prod.fst = (wCo cy a0 a1 a2 a3 z).map Prod.fst := rfl
theorem c_Co_Co {cy : Nat → ClassId} {a0 a1 a2 a3 : Nat} {z : CoT} : [0, 1, 2, 3].map (fun i => (wCo cy a0 a1 a2 a3 z)[i]?) = (wCo cy a0 a1 a2 a3 z).map some := rfl
theorem r_Co_Co {cy : Nat → ClassId} {a0 a1 a2 a3 : Nat} {z z2 : CoT} : va_rep [0, 1, 2, 3] (wCo cy a0 a1 a2 a3 z2) (wCo cy a0 a1 a2 a3 z) = wCo cy a0 a1 a2 a3 z2 := rfl
theorem g_De_0 {cy : Nat → ClassId} {a0 a1 : Nat} {de : (Nat → Int32)} : (wDe cy a0 a1 de)[0]? = some (a0, .inr (1, [.ref a1])) := rfl
theorem g_De_1 {cy : Nat → ClassId} {a0 a1 : Nat} {de : (Nat → Int32)} : (wDe cy a0 a1 de)[1]? = some (a1, .inl (cy 0, 225, .inl de)) := rfl
theorem s_De_1 {cy : Nat → ClassId} {a0 a1 : Nat} {de : (Nat → Int32)} {f : Nat → Int32} : (wDe cy a0 a1 de).set 1 (a1, .inl (cy 0, 225, .inl f)) = (wDe cy a0 a1 f) := rfl
theorem h_De {cy : Nat → ClassId} {a0 a1 : Nat} {z z2 : (Nat → Int32)} : (wDe cy a0 a1 z2).map Prod.fst = (wDe cy a0 a1 z).map Prod.fst := rfl
theorem c_De_De {cy : Nat → ClassId} {a0 a1 : Nat} {z : (Nat → Int32)} : [0, 1].map (fun i => (wDe cy a0 a1 z)[i]?) = (wDe cy a0 a1 z).map some := rfl
theorem r_De_De {cy : Nat → ClassId} {a0 a1 : Nat} {z z2 : (Nat → Int32)} : va_rep [0, 1] (wDe cy a0 a1 z2) (wDe cy a0 a1 z) = wDe cy a0 a1 z2 := rfl
theorem g_Tx_0 {cy : Nat → ClassId} {a0 a1 : Nat} {tx : TxT} : (wTx cy a0 a1 tx)[0]? = some (a0, .inr (4, [.ref a1, .int (tL tx), .int (tC tx), .int (tF tx), .int (tG tx), .int (tH tx), .int (tE tx)])) := rfl
theorem s_Tx_0_1 {cy : Nat → ClassId} {a0 a1 : Nat} {tx : TxT} {v : Int32} : (wTx cy a0 a1 tx).set 0 (a0, .inr (4, List.set [.ref a1, .int (tL tx), .int (tC tx), .int (tF tx), .int (tG tx), .int (tH tx), .int (tE tx)] 1 (.int v))) = (wTx cy a0 a1 (tL' tx v)) := rfl
theorem s_Tx_0_2 {cy : Nat → ClassId} {a0 a1 : Nat} {tx : TxT} {v : Int32} : (wTx cy a0 a1 tx).set 0 (a0, .inr (4, List.set [.ref a1, .int (tL tx), .int (tC tx), .int (tF tx), .int (tG tx), .int (tH tx), .int (tE tx)] 2 (.int v))) = (wTx cy a0 a1 (tC' tx v)) := rfl
theorem s_Tx_0_3 {cy : Nat → ClassId} {a0 a1 : Nat} {tx : TxT} {v : Int32} : (wTx cy a0 a1 tx).set 0 (a0, .inr (4, List.set [.ref a1, .int (tL tx), .int (tC tx), .int (tF tx), .int (tG tx), .int (tH tx), .int (tE tx)] 3 (.int v))) = (wTx cy a0 a1 (tF' tx v)) := rfl
theorem s_Tx_0_4 {cy : Nat → ClassId} {a0 a1 : Nat} {tx : TxT} {v : Int32} : (wTx cy a0 a1 tx).set 0 (a0, .inr (4, List.set [.ref a1, .int (tL tx), .int (tC tx), .int (tF tx), .int (tG tx), .int (tH tx), .int (tE tx)] 4 (.int v))) = (wTx cy a0 a1 (tG' tx v)) := rfl
theorem s_Tx_0_5 {cy : Nat → ClassId} {a0 a1 : Nat} {tx : TxT} {v : Int32} : (wTx cy a0 a1 tx).set 0 (a0, .inr (4, List.set [.ref a1, .int (tL tx), .int (tC tx), .int (tF tx), .int (tG tx), .int (tH tx), .int (tE tx)] 5 (.int v))) = (wTx cy a0 a1 (tH' tx v)) := rfl
theorem s_Tx_0_6 {cy : Nat → ClassId} {a0 a1 : Nat} {tx : TxT} {v : Int32} : (wTx cy a0 a1 tx).set 0 (a0, .inr (4, List.set [.ref a1, .int (tL tx), .int (tC tx), .int (tF tx), .int (tG tx), .int (tH tx), .int (tE tx)] 6 (.int v))) = (wTx cy a0 a1 (tE' tx v)) := rfl
theorem g_Tx_1 {cy : Nat → ClassId} {a0 a1 : Nat} {tx : TxT} : (wTx cy a0 a1 tx)[1]? = some (a1, .inl (cy 0, 120, .inl (tS tx))) := rfl
theorem s_Tx_1 {cy : Nat → ClassId} {a0 a1 : Nat} {tx : TxT} {f : Nat → Int32} : (wTx cy a0 a1 tx).set 1 (a1, .inl (cy 0, 120, .inl f)) = (wTx cy a0 a1 (tS' tx f)) := rfl
theorem h_Tx {cy : Nat → ClassId} {a0 a1 : Nat} {z z2 : TxT} : (wTx cy a0 a1 z2).map Prod.fst = (wTx cy a0 a1 z).map Prod.fst := rfl
theorem c_Tx_Tx {cy : Nat → ClassId} {a0 a1 : Nat} {z : TxT} : [0, 1].map (fun i => (wTx cy a0 a1 z)[i]?) = (wTx cy a0 a1 z).map some := rfl
theorem r_Tx_Tx {cy : Nat → ClassId} {a0 a1 : Nat} {z z2 : TxT} : va_rep [0, 1] (wTx cy a0 a1 z2) (wTx cy a0 a1 z) = wTx cy a0 a1 z2 := rfl
theorem g_St_0 {cy : Nat → ClassId} {a : Nat → Nat} {st : StT} : (wSt cy a st)[0]? = some ((a 0), .inr (3, [.ref (a 1), .ref (a 7), .ref (a 11), .ref (a 13), .ref (a 14), .int (sT st), .int (sK st), .int (sX st), .int (sO st)])) := rfl
theorem s_St_0_5 {cy : Nat → ClassId} {a : Nat → Nat} {st : StT} {v : Int32} : (wSt cy a st).set 0 ((a 0), .inr (3, List.set [.ref (a 1), .ref (a 7), .ref (a 11), .ref (a 13), .ref (a 14), .int (sT st), .int (sK st), .int (sX st), .int (sO st)] 5 (.int v))) = (wSt cy a (sT' st v)) := rfl
theorem s_St_0_6 {cy : Nat → ClassId} {a : Nat → Nat} {st : StT} {v : Int32} : (wSt cy a st).set 0 ((a 0), .inr (3, List.set [.ref (a 1), .ref (a 7), .ref (a 11), .ref (a 13), .ref (a 14), .int (sT st), .int (sK st), .int (sX st), .int (sO st)] 6 (.int v))) = (wSt cy a (sK' st v)) := rfl
theorem s_St_0_7 {cy : Nat → ClassId} {a : Nat → Nat} {st : StT} {v : Int32} : (wSt cy a st).set 0 ((a 0), .inr (3, List.set [.ref (a 1), .ref (a 7), .ref (a 11), .ref (a 13), .ref (a 14), .int (sT st), .int (sK st), .int (sX st), .int (sO st)] 7 (.int v))) = (wSt cy a (sX' st v)) := rfl
theorem s_St_0_8 {cy : Nat → ClassId} {a : Nat → Nat} {st : StT} {v : Int32} : (wSt cy a st).set 0 ((a 0), .inr (3, List.set [.ref (a 1), .ref (a 7), .ref (a 11), .ref (a 13), .ref (a 14), .int (sT st), .int (sK st), .int (sX st), .int (sO st)] 8 (.int v))) = (wSt cy a (sO' st v)) := rfl
theorem g_St_1 {cy : Nat → ClassId} {a : Nat → Nat} {st : StT} : (wSt cy a st)[1]? = some ((a 1), .inr (5, [.ref (a 2), .ref (a 3), .ref (a 4), .ref (a 5), .ref (a 6), .int (uN (sU st))])) := rfl
theorem s_St_1_5 {cy : Nat → ClassId} {a : Nat → Nat} {st : StT} {v : Int32} : (wSt cy a st).set 1 ((a 1), .inr (5, List.set [.ref (a 2), .ref (a 3), .ref (a 4), .ref (a 5), .ref (a 6), .int (uN (sU st))] 5 (.int v))) = (wSt cy a (sU' st (uN' (sU st) v))) := rfl
theorem g_St_2 {cy : Nat → ClassId} {a : Nat → Nat} {st : StT} : (wSt cy a st)[2]? = some ((a 2), .inl (cy 0, 16, .inl (uK (sU st)))) := rfl
theorem s_St_2 {cy : Nat → ClassId} {a : Nat → Nat} {st : StT} {f : Nat → Int32} : (wSt cy a st).set 2 ((a 2), .inl (cy 0, 16, .inl f)) = (wSt cy a (sU' st (uK' (sU st) f))) := rfl
theorem g_St_3 {cy : Nat → ClassId} {a : Nat → Nat} {st : StT} : (wSt cy a st)[3]? = some ((a 3), .inl (cy 0, 16, .inl (uO (sU st)))) := rfl
theorem s_St_3 {cy : Nat → ClassId} {a : Nat → Nat} {st : StT} {f : Nat → Int32} : (wSt cy a st).set 3 ((a 3), .inl (cy 0, 16, .inl f)) = (wSt cy a (sU' st (uO' (sU st) f))) := rfl
theorem g_St_4 {cy : Nat → ClassId} {a : Nat → Nat} {st : StT} : (wSt cy a st)[4]? = some ((a 4), .inl (cy 0, 16, .inl (uP (sU st)))) := rfl
theorem s_St_4 {cy : Nat → ClassId} {a : Nat → Nat} {st : StT} {f : Nat → Int32} : (wSt cy a st).set 4 ((a 4), .inl (cy 0, 16, .inl f)) = (wSt cy a (sU' st (uP' (sU st) f))) := rfl
theorem g_St_5 {cy : Nat → ClassId} {a : Nat → Nat} {st : StT} : (wSt cy a st)[5]? = some ((a 5), .inl (cy 0, 16, .inl (uQ (sU st)))) := rfl
theorem s_St_5 {cy : Nat → ClassId} {a : Nat → Nat} {st : StT} {f : Nat → Int32} : (wSt cy a st).set 5 ((a 5), .inl (cy 0, 16, .inl f)) = (wSt cy a (sU' st (uQ' (sU st) f))) := rfl
theorem g_St_6 {cy : Nat → ClassId} {a : Nat → Nat} {st : StT} : (wSt cy a st)[6]? = some ((a 6), .inl (cy 0, 16, .inl (uD (sU st)))) := rfl
theorem s_St_6 {cy : Nat → ClassId} {a : Nat → Nat} {st : StT} {f : Nat → Int32} : (wSt cy a st).set 6 ((a 6), .inl (cy 0, 16, .inl f)) = (wSt cy a (sU' st (uD' (sU st) f))) := rfl
theorem g_St_7 {cy : Nat → ClassId} {a : Nat → Nat} {st : StT} : (wSt cy a st)[7]? = some ((a 7), .inr (0, [.ref (a 8), .ref (a 9), .ref (a 10)])) := rfl
theorem g_St_8 {cy : Nat → ClassId} {a : Nat → Nat} {st : StT} : (wSt cy a st)[8]? = some ((a 8), .inl (cy 0, 30, .inl (cK (sC st)))) := rfl
theorem s_St_8 {cy : Nat → ClassId} {a : Nat → Nat} {st : StT} {f : Nat → Int32} : (wSt cy a st).set 8 ((a 8), .inl (cy 0, 30, .inl f)) = (wSt cy a (sC' st (cK' (sC st) f))) := rfl
theorem g_St_9 {cy : Nat → ClassId} {a : Nat → Nat} {st : StT} : (wSt cy a st)[9]? = some ((a 9), .inl (cy 0, 30, .inl (cD (sC st)))) := rfl
theorem s_St_9 {cy : Nat → ClassId} {a : Nat → Nat} {st : StT} {f : Nat → Int32} : (wSt cy a st).set 9 ((a 9), .inl (cy 0, 30, .inl f)) = (wSt cy a (sC' st (cD' (sC st) f))) := rfl
theorem g_St_10 {cy : Nat → ClassId} {a : Nat → Nat} {st : StT} : (wSt cy a st)[10]? = some ((a 10), .inl (cy 0, 5, .inl (cC (sC st)))) := rfl
theorem s_St_10 {cy : Nat → ClassId} {a : Nat → Nat} {st : StT} {f : Nat → Int32} : (wSt cy a st).set 10 ((a 10), .inl (cy 0, 5, .inl f)) = (wSt cy a (sC' st (cC' (sC st) f))) := rfl
theorem g_St_11 {cy : Nat → ClassId} {a : Nat → Nat} {st : StT} : (wSt cy a st)[11]? = some ((a 11), .inr (1, [.ref (a 12)])) := rfl
theorem g_St_12 {cy : Nat → ClassId} {a : Nat → Nat} {st : StT} : (wSt cy a st)[12]? = some ((a 12), .inl (cy 0, 225, .inl (sD st))) := rfl
theorem s_St_12 {cy : Nat → ClassId} {a : Nat → Nat} {st : StT} {f : Nat → Int32} : (wSt cy a st).set 12 ((a 12), .inl (cy 0, 225, .inl f)) = (wSt cy a (sD' st f)) := rfl
theorem g_St_13 {cy : Nat → ClassId} {a : Nat → Nat} {st : StT} : (wSt cy a st)[13]? = some ((a 13), .inl (cy 0, 5, .inl (sA st))) := rfl
theorem s_St_13 {cy : Nat → ClassId} {a : Nat → Nat} {st : StT} {f : Nat → Int32} : (wSt cy a st).set 13 ((a 13), .inl (cy 0, 5, .inl f)) = (wSt cy a (sA' st f)) := rfl
theorem g_St_14 {cy : Nat → ClassId} {a : Nat → Nat} {st : StT} : (wSt cy a st)[14]? = some ((a 14), .inl (cy 0, 3, .inl (sS st))) := rfl
theorem s_St_14 {cy : Nat → ClassId} {a : Nat → Nat} {st : StT} {f : Nat → Int32} : (wSt cy a st).set 14 ((a 14), .inl (cy 0, 3, .inl f)) = (wSt cy a (sS' st f)) := rfl
theorem h_St {cy : Nat → ClassId} {a : Nat → Nat} {z z2 : StT} : (wSt cy a z2).map Prod.fst = (wSt cy a z).map Prod.fst := rfl
theorem c_St_St {cy : Nat → ClassId} {a : Nat → Nat} {z : StT} : [0, 1, 2, 3, 4, 5, 6, 7, 8, 9, 10, 11, 12, 13, 14].map (fun i => (wSt cy a z)[i]?) = (wSt cy a z).map some := rfl
theorem r_St_St {cy : Nat → ClassId} {a : Nat → Nat} {z z2 : StT} : va_rep [0, 1, 2, 3, 4, 5, 6, 7, 8, 9, 10, 11, 12, 13, 14] (wSt cy a z2) (wSt cy a z) = wSt cy a z2 := rfl
theorem u_St_Un {cy : Nat → ClassId} {a : Nat → Nat} {st : StT} : [1, 2, 3, 4, 5, 6].filterMap (fun i => (wSt cy a st)[i]?) = (wUn cy (a 1) (a 2) (a 3) (a 4) (a 5) (a 6) (sU st)) := rfl
theorem c_St_Un {cy : Nat → ClassId} {a : Nat → Nat} {st : StT} : [1, 2, 3, 4, 5, 6].map (fun i => (wSt cy a st)[i]?) = (wUn cy (a 1) (a 2) (a 3) (a 4) (a 5) (a 6) (sU st)).map some := rfl
theorem r_St_Un {cy : Nat → ClassId} {a : Nat → Nat} {st : StT} {z : UnT} : va_rep [1, 2, 3, 4, 5, 6] (wUn cy (a 1) (a 2) (a 3) (a 4) (a 5) (a 6) z) (wSt cy a st) = (wSt cy a (sU' st z)) := rfl
theorem u_St_Co {cy : Nat → ClassId} {a : Nat → Nat} {st : StT} : [7, 8, 9, 10].filterMap (fun i => (wSt cy a st)[i]?) = (wCo cy (a 7) (a 8) (a 9) (a 10) (sC st)) := rfl
theorem c_St_Co {cy : Nat → ClassId} {a : Nat → Nat} {st : StT} : [7, 8, 9, 10].map (fun i => (wSt cy a st)[i]?) = (wCo cy (a 7) (a 8) (a 9) (a 10) (sC st)).map some := rfl
theorem r_St_Co {cy : Nat → ClassId} {a : Nat → Nat} {st : StT} {z : CoT} : va_rep [7, 8, 9, 10] (wCo cy (a 7) (a 8) (a 9) (a 10) z) (wSt cy a st) = (wSt cy a (sC' st z)) := rfl
theorem u_St_De {cy : Nat → ClassId} {a : Nat → Nat} {st : StT} : [11, 12].filterMap (fun i => (wSt cy a st)[i]?) = (wDe cy (a 11) (a 12) (sD st)) := rfl
theorem c_St_De {cy : Nat → ClassId} {a : Nat → Nat} {st : StT} : [11, 12].map (fun i => (wSt cy a st)[i]?) = (wDe cy (a 11) (a 12) (sD st)).map some := rfl
theorem r_St_De {cy : Nat → ClassId} {a : Nat → Nat} {st : StT} {z : (Nat → Int32)} : va_rep [11, 12] (wDe cy (a 11) (a 12) z) (wSt cy a st) = (wSt cy a (sD' st z)) := rfl
