abbrev MoT : Type := Int32 × (Nat → Int32) × Int32 × (Nat → Int32) × (Nat → Int32) × (Nat → Int32) × Int32 × (Nat → Int32) × (Nat → Int32) × Int32 × Int32
def mR (z : MoT) : Int32 := z.1
def mT (z : MoT) : (Nat → Int32) := z.2.1
def mZ (z : MoT) : Int32 := z.2.2.1
def mN (z : MoT) : (Nat → Int32) := z.2.2.2.1
def mW (z : MoT) : (Nat → Int32) := z.2.2.2.2.1
def mD (z : MoT) : (Nat → Int32) := z.2.2.2.2.2.1
def mA (z : MoT) : Int32 := z.2.2.2.2.2.2.1
def mK (z : MoT) : (Nat → Int32) := z.2.2.2.2.2.2.2.1
def mI (z : MoT) : (Nat → Int32) := z.2.2.2.2.2.2.2.2.1
def mP (z : MoT) : Int32 := z.2.2.2.2.2.2.2.2.2.1
def mO (z : MoT) : Int32 := z.2.2.2.2.2.2.2.2.2.2
def mR' (z : MoT) (v : Int32) : MoT := (v, z.2)
def mT' (z : MoT) (v : (Nat → Int32)) : MoT := (z.1, v, z.2.2)
def mZ' (z : MoT) (v : Int32) : MoT := (z.1, z.2.1, v, z.2.2.2)
def mN' (z : MoT) (v : (Nat → Int32)) : MoT := (z.1, z.2.1, z.2.2.1, v, z.2.2.2.2)
def mW' (z : MoT) (v : (Nat → Int32)) : MoT := (z.1, z.2.1, z.2.2.1, z.2.2.2.1, v, z.2.2.2.2.2)
def mD' (z : MoT) (v : (Nat → Int32)) : MoT := (z.1, z.2.1, z.2.2.1, z.2.2.2.1, z.2.2.2.2.1, v, z.2.2.2.2.2.2)
def mA' (z : MoT) (v : Int32) : MoT := (z.1, z.2.1, z.2.2.1, z.2.2.2.1, z.2.2.2.2.1, z.2.2.2.2.2.1, v, z.2.2.2.2.2.2.2)
def mK' (z : MoT) (v : (Nat → Int32)) : MoT := (z.1, z.2.1, z.2.2.1, z.2.2.2.1, z.2.2.2.2.1, z.2.2.2.2.2.1, z.2.2.2.2.2.2.1, v, z.2.2.2.2.2.2.2.2)
def mI' (z : MoT) (v : (Nat → Int32)) : MoT := (z.1, z.2.1, z.2.2.1, z.2.2.2.1, z.2.2.2.2.1, z.2.2.2.2.2.1, z.2.2.2.2.2.2.1, z.2.2.2.2.2.2.2.1, v, z.2.2.2.2.2.2.2.2.2)
def mP' (z : MoT) (v : Int32) : MoT := (z.1, z.2.1, z.2.2.1, z.2.2.2.1, z.2.2.2.2.1, z.2.2.2.2.2.1, z.2.2.2.2.2.2.1, z.2.2.2.2.2.2.2.1, z.2.2.2.2.2.2.2.2.1, v, z.2.2.2.2.2.2.2.2.2.2)
def mO' (z : MoT) (v : Int32) : MoT := (z.1, z.2.1, z.2.2.1, z.2.2.2.1, z.2.2.2.2.1, z.2.2.2.2.2.1, z.2.2.2.2.2.2.1, z.2.2.2.2.2.2.2.1, z.2.2.2.2.2.2.2.2.1, z.2.2.2.2.2.2.2.2.2.1, v)
theorem mR_mR' (z : MoT) (v : Int32) : mR (mR' z v) = v := rfl
theorem mR_mT' (z : MoT) (v : (Nat → Int32)) : mR (mT' z v) = mR z := rfl
theorem mR_mZ' (z : MoT) (v : Int32) : mR (mZ' z v) = mR z := rfl
theorem mR_mN' (z : MoT) (v : (Nat → Int32)) : mR (mN' z v) = mR z := rfl
theorem mR_mW' (z : MoT) (v : (Nat → Int32)) : mR (mW' z v) = mR z := rfl
theorem mR_mD' (z : MoT) (v : (Nat → Int32)) : mR (mD' z v) = mR z := rfl
theorem mR_mA' (z : MoT) (v : Int32) : mR (mA' z v) = mR z := rfl
theorem mR_mK' (z : MoT) (v : (Nat → Int32)) : mR (mK' z v) = mR z := rfl
theorem mR_mI' (z : MoT) (v : (Nat → Int32)) : mR (mI' z v) = mR z := rfl
theorem mR_mP' (z : MoT) (v : Int32) : mR (mP' z v) = mR z := rfl
theorem mR_mO' (z : MoT) (v : Int32) : mR (mO' z v) = mR z := rfl
theorem mT_mR' (z : MoT) (v : Int32) : mT (mR' z v) = mT z := rfl
theorem mT_mT' (z : MoT) (v : (Nat → Int32)) : mT (mT' z v) = v := rfl
theorem mT_mZ' (z : MoT) (v : Int32) : mT (mZ' z v) = mT z := rfl
theorem mT_mN' (z : MoT) (v : (Nat → Int32)) : mT (mN' z v) = mT z := rfl
theorem mT_mW' (z : MoT) (v : (Nat → Int32)) : mT (mW' z v) = mT z := rfl
theorem mT_mD' (z : MoT) (v : (Nat → Int32)) : mT (mD' z v) = mT z := rfl
theorem mT_mA' (z : MoT) (v : Int32) : mT (mA' z v) = mT z := rfl
theorem mT_mK' (z : MoT) (v : (Nat → Int32)) : mT (mK' z v) = mT z := rfl
theorem mT_mI' (z : MoT) (v : (Nat → Int32)) : mT (mI' z v) = mT z := rfl
theorem mT_mP' (z : MoT) (v : Int32) : mT (mP' z v) = mT z := rfl
theorem mT_mO' (z : MoT) (v : Int32) : mT (mO' z v) = mT z := rfl
theorem mZ_mR' (z : MoT) (v : Int32) : mZ (mR' z v) = mZ z := rfl
theorem mZ_mT' (z : MoT) (v : (Nat → Int32)) : mZ (mT' z v) = mZ z := rfl
theorem mZ_mZ' (z : MoT) (v : Int32) : mZ (mZ' z v) = v := rfl
theorem mZ_mN' (z : MoT) (v : (Nat → Int32)) : mZ (mN' z v) = mZ z := rfl
theorem mZ_mW' (z : MoT) (v : (Nat → Int32)) : mZ (mW' z v) = mZ z := rfl
theorem mZ_mD' (z : MoT) (v : (Nat → Int32)) : mZ (mD' z v) = mZ z := rfl
theorem mZ_mA' (z : MoT) (v : Int32) : mZ (mA' z v) = mZ z := rfl
theorem mZ_mK' (z : MoT) (v : (Nat → Int32)) : mZ (mK' z v) = mZ z := rfl
theorem mZ_mI' (z : MoT) (v : (Nat → Int32)) : mZ (mI' z v) = mZ z := rfl
theorem mZ_mP' (z : MoT) (v : Int32) : mZ (mP' z v) = mZ z := rfl
theorem mZ_mO' (z : MoT) (v : Int32) : mZ (mO' z v) = mZ z := rfl
theorem mN_mR' (z : MoT) (v : Int32) : mN (mR' z v) = mN z := rfl
theorem mN_mT' (z : MoT) (v : (Nat → Int32)) : mN (mT' z v) = mN z := rfl
theorem mN_mZ' (z : MoT) (v : Int32) : mN (mZ' z v) = mN z := rfl
theorem mN_mN' (z : MoT) (v : (Nat → Int32)) : mN (mN' z v) = v := rfl
theorem mN_mW' (z : MoT) (v : (Nat → Int32)) : mN (mW' z v) = mN z := rfl
theorem mN_mD' (z : MoT) (v : (Nat → Int32)) : mN (mD' z v) = mN z := rfl
theorem mN_mA' (z : MoT) (v : Int32) : mN (mA' z v) = mN z := rfl
theorem mN_mK' (z : MoT) (v : (Nat → Int32)) : mN (mK' z v) = mN z := rfl
theorem mN_mI' (z : MoT) (v : (Nat → Int32)) : mN (mI' z v) = mN z := rfl
theorem mN_mP' (z : MoT) (v : Int32) : mN (mP' z v) = mN z := rfl
theorem mN_mO' (z : MoT) (v : Int32) : mN (mO' z v) = mN z := rfl
theorem mW_mR' (z : MoT) (v : Int32) : mW (mR' z v) = mW z := rfl
theorem mW_mT' (z : MoT) (v : (Nat → Int32)) : mW (mT' z v) = mW z := rfl
theorem mW_mZ' (z : MoT) (v : Int32) : mW (mZ' z v) = mW z := rfl
theorem mW_mN' (z : MoT) (v : (Nat → Int32)) : mW (mN' z v) = mW z := rfl
theorem mW_mW' (z : MoT) (v : (Nat → Int32)) : mW (mW' z v) = v := rfl
theorem mW_mD' (z : MoT) (v : (Nat → Int32)) : mW (mD' z v) = mW z := rfl
theorem mW_mA' (z : MoT) (v : Int32) : mW (mA' z v) = mW z := rfl
theorem mW_mK' (z : MoT) (v : (Nat → Int32)) : mW (mK' z v) = mW z := rfl
theorem mW_mI' (z : MoT) (v : (Nat → Int32)) : mW (mI' z v) = mW z := rfl
theorem mW_mP' (z : MoT) (v : Int32) : mW (mP' z v) = mW z := rfl
theorem mW_mO' (z : MoT) (v : Int32) : mW (mO' z v) = mW z := rfl
theorem mD_mR' (z : MoT) (v : Int32) : mD (mR' z v) = mD z := rfl
theorem mD_mT' (z : MoT) (v : (Nat → Int32)) : mD (mT' z v) = mD z := rfl
theorem mD_mZ' (z : MoT) (v : Int32) : mD (mZ' z v) = mD z := rfl
theorem mD_mN' (z : MoT) (v : (Nat → Int32)) : mD (mN' z v) = mD z := rfl
theorem mD_mW' (z : MoT) (v : (Nat → Int32)) : mD (mW' z v) = mD z := rfl
theorem mD_mD' (z : MoT) (v : (Nat → Int32)) : mD (mD' z v) = v := rfl
theorem mD_mA' (z : MoT) (v : Int32) : mD (mA' z v) = mD z := rfl
theorem mD_mK' (z : MoT) (v : (Nat → Int32)) : mD (mK' z v) = mD z := rfl
theorem mD_mI' (z : MoT) (v : (Nat → Int32)) : mD (mI' z v) = mD z := rfl
theorem mD_mP' (z : MoT) (v : Int32) : mD (mP' z v) = mD z := rfl
theorem mD_mO' (z : MoT) (v : Int32) : mD (mO' z v) = mD z := rfl
theorem mA_mR' (z : MoT) (v : Int32) : mA (mR' z v) = mA z := rfl
theorem mA_mT' (z : MoT) (v : (Nat → Int32)) : mA (mT' z v) = mA z := rfl
theorem mA_mZ' (z : MoT) (v : Int32) : mA (mZ' z v) = mA z := rfl
theorem mA_mN' (z : MoT) (v : (Nat → Int32)) : mA (mN' z v) = mA z := rfl
theorem mA_mW' (z : MoT) (v : (Nat → Int32)) : mA (mW' z v) = mA z := rfl
theorem mA_mD' (z : MoT) (v : (Nat → Int32)) : mA (mD' z v) = mA z := rfl
theorem mA_mA' (z : MoT) (v : Int32) : mA (mA' z v) = v := rfl
theorem mA_mK' (z : MoT) (v : (Nat → Int32)) : mA (mK' z v) = mA z := rfl
theorem mA_mI' (z : MoT) (v : (Nat → Int32)) : mA (mI' z v) = mA z := rfl
theorem mA_mP' (z : MoT) (v : Int32) : mA (mP' z v) = mA z := rfl
theorem mA_mO' (z : MoT) (v : Int32) : mA (mO' z v) = mA z := rfl
theorem mK_mR' (z : MoT) (v : Int32) : mK (mR' z v) = mK z := rfl
theorem mK_mT' (z : MoT) (v : (Nat → Int32)) : mK (mT' z v) = mK z := rfl
theorem mK_mZ' (z : MoT) (v : Int32) : mK (mZ' z v) = mK z := rfl
theorem mK_mN' (z : MoT) (v : (Nat → Int32)) : mK (mN' z v) = mK z := rfl
theorem mK_mW' (z : MoT) (v : (Nat → Int32)) : mK (mW' z v) = mK z := rfl
theorem mK_mD' (z : MoT) (v : (Nat → Int32)) : mK (mD' z v) = mK z := rfl
theorem mK_mA' (z : MoT) (v : Int32) : mK (mA' z v) = mK z := rfl
theorem mK_mK' (z : MoT) (v : (Nat → Int32)) : mK (mK' z v) = v := rfl
theorem mK_mI' (z : MoT) (v : (Nat → Int32)) : mK (mI' z v) = mK z := rfl
theorem mK_mP' (z : MoT) (v : Int32) : mK (mP' z v) = mK z := rfl
theorem mK_mO' (z : MoT) (v : Int32) : mK (mO' z v) = mK z := rfl
theorem mI_mR' (z : MoT) (v : Int32) : mI (mR' z v) = mI z := rfl
theorem mI_mT' (z : MoT) (v : (Nat → Int32)) : mI (mT' z v) = mI z := rfl
theorem mI_mZ' (z : MoT) (v : Int32) : mI (mZ' z v) = mI z := rfl
theorem mI_mN' (z : MoT) (v : (Nat → Int32)) : mI (mN' z v) = mI z := rfl
theorem mI_mW' (z : MoT) (v : (Nat → Int32)) : mI (mW' z v) = mI z := rfl
theorem mI_mD' (z : MoT) (v : (Nat → Int32)) : mI (mD' z v) = mI z := rfl
theorem mI_mA' (z : MoT) (v : Int32) : mI (mA' z v) = mI z := rfl
theorem mI_mK' (z : MoT) (v : (Nat → Int32)) : mI (mK' z v) = mI z := rfl
theorem mI_mI' (z : MoT) (v : (Nat → Int32)) : mI (mI' z v) = v := rfl
theorem mI_mP' (z : MoT) (v : Int32) : mI (mP' z v) = mI z := rfl
theorem mI_mO' (z : MoT) (v : Int32) : mI (mO' z v) = mI z := rfl
theorem mP_mR' (z : MoT) (v : Int32) : mP (mR' z v) = mP z := rfl
theorem mP_mT' (z : MoT) (v : (Nat → Int32)) : mP (mT' z v) = mP z := rfl
theorem mP_mZ' (z : MoT) (v : Int32) : mP (mZ' z v) = mP z := rfl
theorem mP_mN' (z : MoT) (v : (Nat → Int32)) : mP (mN' z v) = mP z := rfl
theorem mP_mW' (z : MoT) (v : (Nat → Int32)) : mP (mW' z v) = mP z := rfl
theorem mP_mD' (z : MoT) (v : (Nat → Int32)) : mP (mD' z v) = mP z := rfl
theorem mP_mA' (z : MoT) (v : Int32) : mP (mA' z v) = mP z := rfl
theorem mP_mK' (z : MoT) (v : (Nat → Int32)) : mP (mK' z v) = mP z := rfl
theorem mP_mI' (z : MoT) (v : (Nat → Int32)) : mP (mI' z v) = mP z := rfl
theorem mP_mP' (z : MoT) (v : Int32) : mP (mP' z v) = v := rfl
theorem mP_mO' (z : MoT) (v : Int32) : mP (mO' z v) = mP z := rfl
theorem mO_mR' (z : MoT) (v : Int32) : mO (mR' z v) = mO z := rfl
theorem mO_mT' (z : MoT) (v : (Nat → Int32)) : mO (mT' z v) = mO z := rfl
theorem mO_mZ' (z : MoT) (v : Int32) : mO (mZ' z v) = mO z := rfl
theorem mO_mN' (z : MoT) (v : (Nat → Int32)) : mO (mN' z v) = mO z := rfl
theorem mO_mW' (z : MoT) (v : (Nat → Int32)) : mO (mW' z v) = mO z := rfl
theorem mO_mD' (z : MoT) (v : (Nat → Int32)) : mO (mD' z v) = mO z := rfl
theorem mO_mA' (z : MoT) (v : Int32) : mO (mA' z v) = mO z := rfl
theorem mO_mK' (z : MoT) (v : (Nat → Int32)) : mO (mK' z v) = mO z := rfl
theorem mO_mI' (z : MoT) (v : (Nat → Int32)) : mO (mI' z v) = mO z := rfl
theorem mO_mP' (z : MoT) (v : Int32) : mO (mP' z v) = mO z := rfl
theorem mO_mO' (z : MoT) (v : Int32) : mO (mO' z v) = v := rfl
def wAr (cy : Nat → ClassId) (a0 : Nat) (z : Nat → Int32) : va_W := [(a0, .inl (cy 0, 383, .inl z))]
def wCp (cy : Nat → ClassId) (a0 a1 n0 n1 : Nat) (f z : Nat → Int32) : va_W := [(a0, .inl (cy 0, n0, .inl f)), (a1, .inl (cy 0, n1, .inl z))]
/-- a number between two others -/
def iv (lo hi : Int) (x : Int32) : Prop := lo ≤ x.toInt ∧ x.toInt ≤ hi
theorem iv_lit {v : Int} {x : Int32} (h : x.toInt = v) : iv v v x := ⟨by omega, by omega⟩
theorem iv_add {l1 h1 l2 h2 l h : Int} {x y : Int32} (a : iv l1 h1 x) (b : iv l2 h2 y) (e : l = l1 + l2 ∧ h = h1 + h2 ∧ -2147483648 ≤ l ∧ h < 2147483648) : iv l h (x + y) := by
  obtain ⟨e1, e2, e3, e4⟩ := e
  obtain ⟨a1, a2⟩ := a
  obtain ⟨b1, b2⟩ := b
  have := i32_add (x := x) (y := y) (by omega) (by omega)
  exact ⟨by omega, by omega⟩
theorem iv_sub {l1 h1 l2 h2 l h : Int} {x y : Int32} (a : iv l1 h1 x) (b : iv l2 h2 y) (e : l = l1 - h2 ∧ h = h1 - l2 ∧ -2147483648 ≤ l ∧ h < 2147483648) : iv l h (x - y) := by
  obtain ⟨e1, e2, e3, e4⟩ := e
  obtain ⟨a1, a2⟩ := a
  obtain ⟨b1, b2⟩ := b
  have := i32_sub (x := x) (y := y) (by omega) (by omega)
  exact ⟨by omega, by omega⟩
theorem iv_mul {l1 h1 l2 h2 l h : Int} {x y : Int32} (a : iv l1 h1 x) (b : iv l2 h2 y) (e : l = l1 * l2 ∧ h = h1 * h2 ∧ 0 ≤ l1 ∧ 0 ≤ l2 ∧ h < 2147483648) : iv l h (x * y) := by
  obtain ⟨e1, e2, e3, e4, e5⟩ := e
  obtain ⟨a1, a2⟩ := a
  obtain ⟨b1, b2⟩ := b
  have k1 : l1 * l2 ≤ x.toInt * y.toInt := Int.mul_le_mul a1 b1 e4 (by omega)
  have k2 : x.toInt * y.toInt ≤ h1 * h2 := Int.mul_le_mul a2 b2 (by omega) (by omega)
  have k3 : 0 ≤ l1 * l2 := Int.mul_nonneg e3 e4
  have := i32_mul (x := x) (y := y) (by omega) (by omega)
  exact ⟨by omega, by omega⟩
theorem iv_in {l h : Int} {x : Int32} {N : Nat} (a : iv l h x) (h0 : 0 ≤ l) (h1 : h < N) : vp_in x N := bd_of (by have := a.1; omega) (by have := a.2; omega)
theorem iv_loop {x B : Int32} {M : Nat} {h : Int} (h0 : 0 ≤ x.toInt) (h1 : ¬ B ≤ x) (h2 : B.toInt ≤ M) (h3 : h = M - 1) : iv 0 h x := by
  rw [i32_le] at h1
  exact ⟨h0, by omega⟩
theorem iv_wide {l h l2 h2 : Int} {x : Int32} (a : iv l h x) (e : l2 ≤ l ∧ h ≤ h2) : iv l2 h2 x := ⟨Int.le_trans e.1 a.1, Int.le_trans a.2 e.2⟩
theorem iv_us {l h : Int} {f : Nat → Int32} {k : Nat} {v : Int32} (a : iv l h v) : iv l h (upd f k v k) := by rw [pk_us]; exact a
/-- the reference's row of numbers: what its methods rest on -/
def rOK (r : Nat → Int32) : Prop := iv 0 16 (r 1) ∧ (∀ u : Nat, u < 16 → iv 0 2 (r (8 + 5 * u)) ∧ iv 0 4 (r (8 + 5 * u + 1)) ∧ iv 0 4 (r (8 + 5 * u + 2)) ∧ iv 0 7 (r (8 + 5 * u + 3))) ∧ ∀ h : Nat, h < 5 → iv 0 6 (r (318 + 13 * h))
