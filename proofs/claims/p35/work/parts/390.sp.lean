/-- seven blocks beside each other; the laws move one or two of them to the front -/
def w7 (X T A B R N S : va_W) : va_W := X ++ (T ++ (A ++ (B ++ (R ++ (N ++ S)))))
section W7
variable {X T A B R N S : va_W}
theorem q_T : (w7 X T A B R N S).Perm (T ++ w7 X [] A B R N S) := pm_in (List.Perm.refl _)
theorem q_A : (w7 X T A B R N S).Perm (A ++ w7 X T [] B R N S) := pm_in (pm_in (List.Perm.refl _))
theorem q_B : (w7 X T A B R N S).Perm (B ++ w7 X T A [] R N S) := pm_in (pm_in (pm_in (List.Perm.refl _)))
theorem q_R : (w7 X T A B R N S).Perm (R ++ w7 X T A B [] N S) := pm_in (pm_in (pm_in (pm_in (List.Perm.refl _))))
theorem q_N : (w7 X T A B R N S).Perm (N ++ w7 X T A B R [] S) := pm_in (pm_in (pm_in (pm_in (pm_in (List.Perm.refl _)))))
theorem q_S : (w7 X T A B R N S).Perm (S ++ w7 X T A B R N []) := pm_in (pm_in (pm_in (pm_in (pm_in (by rw [List.append_nil]; exact List.perm_append_comm)))))
theorem q_SN : (w7 X T A B R N S).Perm ((S ++ N) ++ w7 X T A B R [] []) := pm_two q_N q_S
theorem q_RN : (w7 X T A B R N S).Perm ((R ++ N) ++ w7 X T A B [] [] S) := pm_two q_N q_R
theorem q_AN : (w7 X T A B R N S).Perm ((A ++ N) ++ w7 X T [] B R [] S) := pm_two q_N q_A
theorem q_NA : (w7 X T A B R N S).Perm ((N ++ A) ++ w7 X T [] B R [] S) := pm_two q_A q_N
theorem q_BN : (w7 X T A B R N S).Perm ((B ++ N) ++ w7 X T A [] R [] S) := pm_two q_N q_B
theorem q_NB : (w7 X T A B R N S).Perm ((N ++ B) ++ w7 X T A [] R [] S) := pm_two q_B q_N
end W7
/-- a whole pool: text, slots, trial, now, history, which slots are saved -/
abbrev SpT : Type := TxT × StT × StT × StT × StT × HiT × (Nat → Int32)
def pT (z : SpT) : TxT := z.1
def pA (z : SpT) : StT := z.2.1
def pB (z : SpT) : StT := z.2.2.1
def pR (z : SpT) : StT := z.2.2.2.1
def pN (z : SpT) : StT := z.2.2.2.2.1
def pH (z : SpT) : HiT := z.2.2.2.2.2.1
def pV (z : SpT) : Nat → Int32 := z.2.2.2.2.2.2
def pT' (z : SpT) (v : TxT) : SpT := (v, z.2)
def pA' (z : SpT) (v : StT) : SpT := (z.1, v, z.2.2)
def pB' (z : SpT) (v : StT) : SpT := (z.1, z.2.1, v, z.2.2.2)
def pR' (z : SpT) (v : StT) : SpT := (z.1, z.2.1, z.2.2.1, v, z.2.2.2.2)
def pN' (z : SpT) (v : StT) : SpT := (z.1, z.2.1, z.2.2.1, z.2.2.2.1, v, z.2.2.2.2.2)
def pH' (z : SpT) (v : HiT) : SpT := (z.1, z.2.1, z.2.2.1, z.2.2.2.1, z.2.2.2.2.1, v, z.2.2.2.2.2.2)
def pV' (z : SpT) (v : Nat → Int32) : SpT := (z.1, z.2.1, z.2.2.1, z.2.2.2.1, z.2.2.2.2.1, z.2.2.2.2.2.1, v)
def wSh (cy : Nat → ClassId) (xa sa sb tr na : Nat → Nat) (v : Nat → Int32) : va_W := [(xa 0, .inr (6, [.ref (xa 3), .ref (na 0), .ref (tr 0), .ref (xa 5), .ref (xa 1), .ref (xa 2)])), (xa 1, .inl (cy 2, 2, .inr (.inr (.inr (.inr (fun i => some (if i = 0 then sa 0 else sb 0))))))), (xa 2, .inl (cy 1, 2, .inl v))]
def wSp (cy : Nat → ClassId) (xa sa sb tr na : Nat → Nat) (ka : Nat → Nat → Nat) (z : SpT) : va_W := w7 (wSh cy xa sa sb tr na (pV z)) (wTx cy (xa 3) (xa 4) (pT z)) (wSt cy sa (pA z)) (wSt cy sb (pB z)) (wSt cy tr (pR z)) (wSt cy na (pN z)) (wHi cy (xa 5) (xa 6) ka (pH z))
theorem h_Sp {cy : Nat → ClassId} {xa sa sb tr na : Nat → Nat} {ka : Nat → Nat → Nat} {z z2 : SpT} : (wSp cy xa sa sb tr na ka z2).map Prod.fst = (wSp cy xa sa sb tr na ka z).map Prod.fst := by
  unfold wSp w7
  simp only [List.map_append]
  rw [h_Hi0 (z := pH z) (z2 := pH z2)]
  rfl
