theorem g_Ar_0 {cy : Nat → ClassId} {a0 : Nat} {r : (Nat → Int32)} : (wAr cy a0 r)[0]? = some (a0, .inl (cy 0, 383, .inl r)) := rfl
theorem s_Ar_0 {cy : Nat → ClassId} {a0 : Nat} {r : (Nat → Int32)} {f : Nat → Int32} : (wAr cy a0 r).set 0 (a0, .inl (cy 0, 383, .inl f)) = (wAr cy a0 f) := rfl
theorem h_Ar {cy : Nat → ClassId} {a0 : Nat} {z z2 : Nat → Int32} : (wAr cy a0 z2).map Prod.fst = (wAr cy a0 z).map Prod.fst := rfl
theorem c_Ar_Ar {cy : Nat → ClassId} {a0 : Nat} {z : Nat → Int32} : [0].map (fun i => (wAr cy a0 z)[i]?) = (wAr cy a0 z).map some := rfl
theorem r_Ar_Ar {cy : Nat → ClassId} {a0 : Nat} {z z2 : Nat → Int32} : va_rep [0] (wAr cy a0 z2) (wAr cy a0 z) = wAr cy a0 z2 := rfl
theorem g_Cp_0 {cy : Nat → ClassId} {a0 a1 n0 n1 : Nat} {ff g : Nat → Int32} : (wCp cy a0 a1 n0 n1 ff g)[0]? = some (a0, .inl (cy 0, n0, .inl ff)) := rfl
theorem g_Cp_1 {cy : Nat → ClassId} {a0 a1 n0 n1 : Nat} {ff g : Nat → Int32} : (wCp cy a0 a1 n0 n1 ff g)[1]? = some (a1, .inl (cy 0, n1, .inl g)) := rfl
theorem s_Cp_1 {cy : Nat → ClassId} {a0 a1 n0 n1 : Nat} {ff g f : Nat → Int32} : (wCp cy a0 a1 n0 n1 ff g).set 1 (a1, .inl (cy 0, n1, .inl f)) = wCp cy a0 a1 n0 n1 ff f := rfl
theorem h_Cp {cy : Nat → ClassId} {a0 a1 n0 n1 : Nat} {ff z z2 : Nat → Int32} : (wCp cy a0 a1 n0 n1 ff z2).map Prod.fst = (wCp cy a0 a1 n0 n1 ff z).map Prod.fst := rfl
