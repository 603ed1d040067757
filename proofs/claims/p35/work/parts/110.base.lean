abbrev UnT : Type := (Nat → Int32) × (Nat → Int32) × (Nat → Int32) × (Nat → Int32) × (Nat → Int32) × Int32
def uK (z : UnT) : (Nat → Int32) := z.1
def uO (z : UnT) : (Nat → Int32) := z.2.1
def uP (z : UnT) : (Nat → Int32) := z.2.2.1
def uQ (z : UnT) : (Nat → Int32) := z.2.2.2.1
def uD (z : UnT) : (Nat → Int32) := z.2.2.2.2.1
def uN (z : UnT) : Int32 := z.2.2.2.2.2
def uK' (z : UnT) (v : (Nat → Int32)) : UnT := (v, z.2)
def uO' (z : UnT) (v : (Nat → Int32)) : UnT := (z.1, v, z.2.2)
def uP' (z : UnT) (v : (Nat → Int32)) : UnT := (z.1, z.2.1, v, z.2.2.2)
def uQ' (z : UnT) (v : (Nat → Int32)) : UnT := (z.1, z.2.1, z.2.2.1, v, z.2.2.2.2)
def uD' (z : UnT) (v : (Nat → Int32)) : UnT := (z.1, z.2.1, z.2.2.1, z.2.2.2.1, v, z.2.2.2.2.2)
def uN' (z : UnT) (v : Int32) : UnT := (z.1, z.2.1, z.2.2.1, z.2.2.2.1, z.2.2.2.2.1, v)
theorem uK_uK' (z : UnT) (v : (Nat → Int32)) : uK (uK' z v) = v := rfl
theorem uK_uO' (z : UnT) (v : (Nat → Int32)) : uK (uO' z v) = uK z := rfl
theorem uK_uP' (z : UnT) (v : (Nat → Int32)) : uK (uP' z v) = uK z := rfl
theorem uK_uQ' (z : UnT) (v : (Nat → Int32)) : uK (uQ' z v) = uK z := rfl
theorem uK_uD' (z : UnT) (v : (Nat → Int32)) : uK (uD' z v) = uK z := rfl
theorem uK_uN' (z : UnT) (v : Int32) : uK (uN' z v) = uK z := rfl
theorem uO_uK' (z : UnT) (v : (Nat → Int32)) : uO (uK' z v) = uO z := rfl
theorem uO_uO' (z : UnT) (v : (Nat → Int32)) : uO (uO' z v) = v := rfl
theorem uO_uP' (z : UnT) (v : (Nat → Int32)) : uO (uP' z v) = uO z := rfl
theorem uO_uQ' (z : UnT) (v : (Nat → Int32)) : uO (uQ' z v) = uO z := rfl
theorem uO_uD' (z : UnT) (v : (Nat → Int32)) : uO (uD' z v) = uO z := rfl
theorem uO_uN' (z : UnT) (v : Int32) : uO (uN' z v) = uO z := rfl
theorem uP_uK' (z : UnT) (v : (Nat → Int32)) : uP (uK' z v) = uP z := rfl
theorem uP_uO' (z : UnT) (v : (Nat → Int32)) : uP (uO' z v) = uP z := rfl
theorem uP_uP' (z : UnT) (v : (Nat → Int32)) : uP (uP' z v) = v := rfl
theorem uP_uQ' (z : UnT) (v : (Nat → Int32)) : uP (uQ' z v) = uP z := rfl
theorem uP_uD' (z : UnT) (v : (Nat → Int32)) : uP (uD' z v) = uP z := rfl
theorem uP_uN' (z : UnT) (v : Int32) : uP (uN' z v) = uP z := rfl
theorem uQ_uK' (z : UnT) (v : (Nat → Int32)) : uQ (uK' z v) = uQ z := rfl
theorem uQ_uO' (z : UnT) (v : (Nat → Int32)) : uQ (uO' z v) = uQ z := rfl
theorem uQ_uP' (z : UnT) (v : (Nat → Int32)) : uQ (uP' z v) = uQ z := rfl
theorem uQ_uQ' (z : UnT) (v : (Nat → Int32)) : uQ (uQ' z v) = v := rfl
theorem uQ_uD' (z : UnT) (v : (Nat → Int32)) : uQ (uD' z v) = uQ z := rfl
theorem uQ_uN' (z : UnT) (v : Int32) : uQ (uN' z v) = uQ z := rfl
theorem uD_uK' (z : UnT) (v : (Nat → Int32)) : uD (uK' z v) = uD z := rfl
theorem uD_uO' (z : UnT) (v : (Nat → Int32)) : uD (uO' z v) = uD z := rfl
theorem uD_uP' (z : UnT) (v : (Nat → Int32)) : uD (uP' z v) = uD z := rfl
theorem uD_uQ' (z : UnT) (v : (Nat → Int32)) : uD (uQ' z v) = uD z := rfl
theorem uD_uD' (z : UnT) (v : (Nat → Int32)) : uD (uD' z v) = v := rfl
theorem uD_uN' (z : UnT) (v : Int32) : uD (uN' z v) = uD z := rfl
theorem uN_uK' (z : UnT) (v : (Nat → Int32)) : uN (uK' z v) = uN z := rfl
theorem uN_uO' (z : UnT) (v : (Nat → Int32)) : uN (uO' z v) = uN z := rfl
theorem uN_uP' (z : UnT) (v : (Nat → Int32)) : uN (uP' z v) = uN z := rfl
theorem uN_uQ' (z : UnT) (v : (Nat → Int32)) : uN (uQ' z v) = uN z := rfl
theorem uN_uD' (z : UnT) (v : (Nat → Int32)) : uN (uD' z v) = uN z := rfl
theorem uN_uN' (z : UnT) (v : Int32) : uN (uN' z v) = v := rfl
abbrev CoT : Type := (Nat → Int32) × (Nat → Int32) × (Nat → Int32)
def cK (z : CoT) : (Nat → Int32) := z.1
def cD (z : CoT) : (Nat → Int32) := z.2.1
def cC (z : CoT) : (Nat → Int32) := z.2.2
def cK' (z : CoT) (v : (Nat → Int32)) : CoT := (v, z.2)
def cD' (z : CoT) (v : (Nat → Int32)) : CoT := (z.1, v, z.2.2)
def cC' (z : CoT) (v : (Nat → Int32)) : CoT := (z.1, z.2.1, v)
theorem cK_cK' (z : CoT) (v : (Nat → Int32)) : cK (cK' z v) = v := rfl
theorem cK_cD' (z : CoT) (v : (Nat → Int32)) : cK (cD' z v) = cK z := rfl
theorem cK_cC' (z : CoT) (v : (Nat → Int32)) : cK (cC' z v) = cK z := rfl
theorem cD_cK' (z : CoT) (v : (Nat → Int32)) : cD (cK' z v) = cD z := rfl
theorem cD_cD' (z : CoT) (v : (Nat → Int32)) : cD (cD' z v) = v := rfl
theorem cD_cC' (z : CoT) (v : (Nat → Int32)) : cD (cC' z v) = cD z := rfl
theorem cC_cK' (z : CoT) (v : (Nat → Int32)) : cC (cK' z v) = cC z := rfl
theorem cC_cD' (z : CoT) (v : (Nat → Int32)) : cC (cD' z v) = cC z := rfl
theorem cC_cC' (z : CoT) (v : (Nat → Int32)) : cC (cC' z v) = v := rfl
abbrev StT : Type := UnT × CoT × (Nat → Int32) × (Nat → Int32) × (Nat → Int32) × Int32 × Int32 × Int32 × Int32
def sU (z : StT) : UnT := z.1
def sC (z : StT) : CoT := z.2.1
def sD (z : StT) : (Nat → Int32) := z.2.2.1
def sA (z : StT) : (Nat → Int32) := z.2.2.2.1
def sS (z : StT) : (Nat → Int32) := z.2.2.2.2.1
def sT (z : StT) : Int32 := z.2.2.2.2.2.1
def sK (z : StT) : Int32 := z.2.2.2.2.2.2.1
def sX (z : StT) : Int32 := z.2.2.2.2.2.2.2.1
def sO (z : StT) : Int32 := z.2.2.2.2.2.2.2.2
def sU' (z : StT) (v : UnT) : StT := (v, z.2)
def sC' (z : StT) (v : CoT) : StT := (z.1, v, z.2.2)
def sD' (z : StT) (v : (Nat → Int32)) : StT := (z.1, z.2.1, v, z.2.2.2)
def sA' (z : StT) (v : (Nat → Int32)) : StT := (z.1, z.2.1, z.2.2.1, v, z.2.2.2.2)
def sS' (z : StT) (v : (Nat → Int32)) : StT := (z.1, z.2.1, z.2.2.1, z.2.2.2.1, v, z.2.2.2.2.2)
def sT' (z : StT) (v : Int32) : StT := (z.1, z.2.1, z.2.2.1, z.2.2.2.1, z.2.2.2.2.1, v, z.2.2.2.2.2.2)
def sK' (z : StT) (v : Int32) : StT := (z.1, z.2.1, z.2.2.1, z.2.2.2.1, z.2.2.2.2.1, z.2.2.2.2.2.1, v, z.2.2.2.2.2.2.2)
def sX' (z : StT) (v : Int32) : StT := (z.1, z.2.1, z.2.2.1, z.2.2.2.1, z.2.2.2.2.1, z.2.2.2.2.2.1, z.2.2.2.2.2.2.1, v, z.2.2.2.2.2.2.2.2)
def sO' (z : StT) (v : Int32) : StT := (z.1, z.2.1, z.2.2.1, z.2.2.2.1, z.2.2.2.2.1, z.2.2.2.2.2.1, z.2.2.2.2.2.2.1, z.2.2.2.2.2.2.2.1, v)
theorem sU_sU' (z : StT) (v : UnT) : sU (sU' z v) = v := rfl
theorem sU_sC' (z : StT) (v : CoT) : sU (sC' z v) = sU z := rfl
theorem sU_sD' (z : StT) (v : (Nat → Int32)) : sU (sD' z v) = sU z := rfl
theorem sU_sA' (z : StT) (v : (Nat → Int32)) : sU (sA' z v) = sU z := rfl
theorem sU_sS' (z : StT) (v : (Nat → Int32)) : sU (sS' z v) = sU z := rfl
theorem sU_sT' (z : StT) (v : Int32) : sU (sT' z v) = sU z := rfl
theorem sU_sK' (z : StT) (v : Int32) : sU (sK' z v) = sU z := rfl
theorem sU_sX' (z : StT) (v : Int32) : sU (sX' z v) = sU z := rfl
theorem sU_sO' (z : StT) (v : Int32) : sU (sO' z v) = sU z := rfl
theorem sC_sU' (z : StT) (v : UnT) : sC (sU' z v) = sC z := rfl
theorem sC_sC' (z : StT) (v : CoT) : sC (sC' z v) = v := rfl
theorem sC_sD' (z : StT) (v : (Nat → Int32)) : sC (sD' z v) = sC z := rfl
theorem sC_sA' (z : StT) (v : (Nat → Int32)) : sC (sA' z v) = sC z := rfl
theorem sC_sS' (z : StT) (v : (Nat → Int32)) : sC (sS' z v) = sC z := rfl
theorem sC_sT' (z : StT) (v : Int32) : sC (sT' z v) = sC z := rfl
theorem sC_sK' (z : StT) (v : Int32) : sC (sK' z v) = sC z := rfl
theorem sC_sX' (z : StT) (v : Int32) : sC (sX' z v) = sC z := rfl
theorem sC_sO' (z : StT) (v : Int32) : sC (sO' z v) = sC z := rfl
theorem sD_sU' (z : StT) (v : UnT) : sD (sU' z v) = sD z := rfl
theorem sD_sC' (z : StT) (v : CoT) : sD (sC' z v) = sD z := rfl
theorem sD_sD' (z : StT) (v : (Nat → Int32)) : sD (sD' z v) = v := rfl
theorem sD_sA' (z : StT) (v : (Nat → Int32)) : sD (sA' z v) = sD z := rfl
theorem sD_sS' (z : StT) (v : (Nat → Int32)) : sD (sS' z v) = sD z := rfl
theorem sD_sT' (z : StT) (v : Int32) : sD (sT' z v) = sD z := rfl
theorem sD_sK' (z : StT) (v : Int32) : sD (sK' z v) = sD z := rfl
theorem sD_sX' (z : StT) (v : Int32) : sD (sX' z v) = sD z := rfl
theorem sD_sO' (z : StT) (v : Int32) : sD (sO' z v) = sD z := rfl
theorem sA_sU' (z : StT) (v : UnT) : sA (sU' z v) = sA z := rfl
theorem sA_sC' (z : StT) (v : CoT) : sA (sC' z v) = sA z := rfl
theorem sA_sD' (z : StT) (v : (Nat → Int32)) : sA (sD' z v) = sA z := rfl
theorem sA_sA' (z : StT) (v : (Nat → Int32)) : sA (sA' z v) = v := rfl
theorem sA_sS' (z : StT) (v : (Nat → Int32)) : sA (sS' z v) = sA z := rfl
theorem sA_sT' (z : StT) (v : Int32) : sA (sT' z v) = sA z := rfl
theorem sA_sK' (z : StT) (v : Int32) : sA (sK' z v) = sA z := rfl
theorem sA_sX' (z : StT) (v : Int32) : sA (sX' z v) = sA z := rfl
theorem sA_sO' (z : StT) (v : Int32) : sA (sO' z v) = sA z := rfl
theorem sS_sU' (z : StT) (v : UnT) : sS (sU' z v) = sS z := rfl
theorem sS_sC' (z : StT) (v : CoT) : sS (sC' z v) = sS z := rfl
theorem sS_sD' (z : StT) (v : (Nat → Int32)) : sS (sD' z v) = sS z := rfl
theorem sS_sA' (z : StT) (v : (Nat → Int32)) : sS (sA' z v) = sS z := rfl
theorem sS_sS' (z : StT) (v : (Nat → Int32)) : sS (sS' z v) = v := rfl
theorem sS_sT' (z : StT) (v : Int32) : sS (sT' z v) = sS z := rfl
theorem sS_sK' (z : StT) (v : Int32) : sS (sK' z v) = sS z := rfl
theorem sS_sX' (z : StT) (v : Int32) : sS (sX' z v) = sS z := rfl
theorem sS_sO' (z : StT) (v : Int32) : sS (sO' z v) = sS z := rfl
theorem sT_sU' (z : StT) (v : UnT) : sT (sU' z v) = sT z := rfl
theorem sT_sC' (z : StT) (v : CoT) : sT (sC' z v) = sT z := rfl
theorem sT_sD' (z : StT) (v : (Nat → Int32)) : sT (sD' z v) = sT z := rfl
theorem sT_sA' (z : StT) (v : (Nat → Int32)) : sT (sA' z v) = sT z := rfl
theorem sT_sS' (z : StT) (v : (Nat → Int32)) : sT (sS' z v) = sT z := rfl
theorem sT_sT' (z : StT) (v : Int32) : sT (sT' z v) = v := rfl
theorem sT_sK' (z : StT) (v : Int32) : sT (sK' z v) = sT z := rfl
theorem sT_sX' (z : StT) (v : Int32) : sT (sX' z v) = sT z := rfl
theorem sT_sO' (z : StT) (v : Int32) : sT (sO' z v) = sT z := rfl
theorem sK_sU' (z : StT) (v : UnT) : sK (sU' z v) = sK z := rfl
theorem sK_sC' (z : StT) (v : CoT) : sK (sC' z v) = sK z := rfl
theorem sK_sD' (z : StT) (v : (Nat → Int32)) : sK (sD' z v) = sK z := rfl
theorem sK_sA' (z : StT) (v : (Nat → Int32)) : sK (sA' z v) = sK z := rfl
theorem sK_sS' (z : StT) (v : (Nat → Int32)) : sK (sS' z v) = sK z := rfl
theorem sK_sT' (z : StT) (v : Int32) : sK (sT' z v) = sK z := rfl
theorem sK_sK' (z : StT) (v : Int32) : sK (sK' z v) = v := rfl
theorem sK_sX' (z : StT) (v : Int32) : sK (sX' z v) = sK z := rfl
theorem sK_sO' (z : StT) (v : Int32) : sK (sO' z v) = sK z := rfl
theorem sX_sU' (z : StT) (v : UnT) : sX (sU' z v) = sX z := rfl
theorem sX_sC' (z : StT) (v : CoT) : sX (sC' z v) = sX z := rfl
theorem sX_sD' (z : StT) (v : (Nat → Int32)) : sX (sD' z v) = sX z := rfl
theorem sX_sA' (z : StT) (v : (Nat → Int32)) : sX (sA' z v) = sX z := rfl
theorem sX_sS' (z : StT) (v : (Nat → Int32)) : sX (sS' z v) = sX z := rfl
theorem sX_sT' (z : StT) (v : Int32) : sX (sT' z v) = sX z := rfl
theorem sX_sK' (z : StT) (v : Int32) : sX (sK' z v) = sX z := rfl
theorem sX_sX' (z : StT) (v : Int32) : sX (sX' z v) = v := rfl
theorem sX_sO' (z : StT) (v : Int32) : sX (sO' z v) = sX z := rfl
theorem sO_sU' (z : StT) (v : UnT) : sO (sU' z v) = sO z := rfl
theorem sO_sC' (z : StT) (v : CoT) : sO (sC' z v) = sO z := rfl
theorem sO_sD' (z : StT) (v : (Nat → Int32)) : sO (sD' z v) = sO z := rfl
theorem sO_sA' (z : StT) (v : (Nat → Int32)) : sO (sA' z v) = sO z := rfl
theorem sO_sS' (z : StT) (v : (Nat → Int32)) : sO (sS' z v) = sO z := rfl
theorem sO_sT' (z : StT) (v : Int32) : sO (sT' z v) = sO z := rfl
theorem sO_sK' (z : StT) (v : Int32) : sO (sK' z v) = sO z := rfl
theorem sO_sX' (z : StT) (v : Int32) : sO (sX' z v) = sO z := rfl
theorem sO_sO' (z : StT) (v : Int32) : sO (sO' z v) = v := rfl
abbrev TxT : Type := (Nat → Int32) × Int32 × Int32 × Int32 × Int32 × Int32 × Int32
def tS (z : TxT) : (Nat → Int32) := z.1
def tL (z : TxT) : Int32 := z.2.1
def tC (z : TxT) : Int32 := z.2.2.1
def tF (z : TxT) : Int32 := z.2.2.2.1
def tG (z : TxT) : Int32 := z.2.2.2.2.1
def tH (z : TxT) : Int32 := z.2.2.2.2.2.1
def tE (z : TxT) : Int32 := z.2.2.2.2.2.2
def tS' (z : TxT) (v : (Nat → Int32)) : TxT := (v, z.2)
def tL' (z : TxT) (v : Int32) : TxT := (z.1, v, z.2.2)
def tC' (z : TxT) (v : Int32) : TxT := (z.1, z.2.1, v, z.2.2.2)
def tF' (z : TxT) (v : Int32) : TxT := (z.1, z.2.1, z.2.2.1, v, z.2.2.2.2)
def tG' (z : TxT) (v : Int32) : TxT := (z.1, z.2.1, z.2.2.1, z.2.2.2.1, v, z.2.2.2.2.2)
def tH' (z : TxT) (v : Int32) : TxT := (z.1, z.2.1, z.2.2.1, z.2.2.2.1, z.2.2.2.2.1, v, z.2.2.2.2.2.2)
def tE' (z : TxT) (v : Int32) : TxT := (z.1, z.2.1, z.2.2.1, z.2.2.2.1, z.2.2.2.2.1, z.2.2.2.2.2.1, v)
theorem tS_tS' (z : TxT) (v : (Nat → Int32)) : tS (tS' z v) = v := rfl
theorem tS_tL' (z : TxT) (v : Int32) : tS (tL' z v) = tS z := rfl
theorem tS_tC' (z : TxT) (v : Int32) : tS (tC' z v) = tS z := rfl
theorem tS_tF' (z : TxT) (v : Int32) : tS (tF' z v) = tS z := rfl
theorem tS_tG' (z : TxT) (v : Int32) : tS (tG' z v) = tS z := rfl
theorem tS_tH' (z : TxT) (v : Int32) : tS (tH' z v) = tS z := rfl
theorem tS_tE' (z : TxT) (v : Int32) : tS (tE' z v) = tS z := rfl
theorem tL_tS' (z : TxT) (v : (Nat → Int32)) : tL (tS' z v) = tL z := rfl
theorem tL_tL' (z : TxT) (v : Int32) : tL (tL' z v) = v := rfl
theorem tL_tC' (z : TxT) (v : Int32) : tL (tC' z v) = tL z := rfl
theorem tL_tF' (z : TxT) (v : Int32) : tL (tF' z v) = tL z := rfl
theorem tL_tG' (z : TxT) (v : Int32) : tL (tG' z v) = tL z := rfl
theorem tL_tH' (z : TxT) (v : Int32) : tL (tH' z v) = tL z := rfl
theorem tL_tE' (z : TxT) (v : Int32) : tL (tE' z v) = tL z := rfl
theorem tC_tS' (z : TxT) (v : (Nat → Int32)) : tC (tS' z v) = tC z := rfl
theorem tC_tL' (z : TxT) (v : Int32) : tC (tL' z v) = tC z := rfl
theorem tC_tC' (z : TxT) (v : Int32) : tC (tC' z v) = v := rfl
theorem tC_tF' (z : TxT) (v : Int32) : tC (tF' z v) = tC z := rfl
theorem tC_tG' (z : TxT) (v : Int32) : tC (tG' z v) = tC z := rfl
theorem tC_tH' (z : TxT) (v : Int32) : tC (tH' z v) = tC z := rfl
theorem tC_tE' (z : TxT) (v : Int32) : tC (tE' z v) = tC z := rfl
theorem tF_tS' (z : TxT) (v : (Nat → Int32)) : tF (tS' z v) = tF z := rfl
theorem tF_tL' (z : TxT) (v : Int32) : tF (tL' z v) = tF z := rfl
theorem tF_tC' (z : TxT) (v : Int32) : tF (tC' z v) = tF z := rfl
theorem tF_tF' (z : TxT) (v : Int32) : tF (tF' z v) = v := rfl
theorem tF_tG' (z : TxT) (v : Int32) : tF (tG' z v) = tF z := rfl
theorem tF_tH' (z : TxT) (v : Int32) : tF (tH' z v) = tF z := rfl
theorem tF_tE' (z : TxT) (v : Int32) : tF (tE' z v) = tF z := rfl
theorem tG_tS' (z : TxT) (v : (Nat → Int32)) : tG (tS' z v) = tG z := rfl
theorem tG_tL' (z : TxT) (v : Int32) : tG (tL' z v) = tG z := rfl
theorem tG_tC' (z : TxT) (v : Int32) : tG (tC' z v) = tG z := rfl
theorem tG_tF' (z : TxT) (v : Int32) : tG (tF' z v) = tG z := rfl
theorem tG_tG' (z : TxT) (v : Int32) : tG (tG' z v) = v := rfl
theorem tG_tH' (z : TxT) (v : Int32) : tG (tH' z v) = tG z := rfl
theorem tG_tE' (z : TxT) (v : Int32) : tG (tE' z v) = tG z := rfl
theorem tH_tS' (z : TxT) (v : (Nat → Int32)) : tH (tS' z v) = tH z := rfl
theorem tH_tL' (z : TxT) (v : Int32) : tH (tL' z v) = tH z := rfl
theorem tH_tC' (z : TxT) (v : Int32) : tH (tC' z v) = tH z := rfl
theorem tH_tF' (z : TxT) (v : Int32) : tH (tF' z v) = tH z := rfl
theorem tH_tG' (z : TxT) (v : Int32) : tH (tG' z v) = tH z := rfl
theorem tH_tH' (z : TxT) (v : Int32) : tH (tH' z v) = v := rfl
theorem tH_tE' (z : TxT) (v : Int32) : tH (tE' z v) = tH z := rfl
theorem tE_tS' (z : TxT) (v : (Nat → Int32)) : tE (tS' z v) = tE z := rfl
theorem tE_tL' (z : TxT) (v : Int32) : tE (tL' z v) = tE z := rfl
theorem tE_tC' (z : TxT) (v : Int32) : tE (tC' z v) = tE z := rfl
theorem tE_tF' (z : TxT) (v : Int32) : tE (tF' z v) = tE z := rfl
theorem tE_tG' (z : TxT) (v : Int32) : tE (tG' z v) = tE z := rfl
theorem tE_tH' (z : TxT) (v : Int32) : tE (tH' z v) = tE z := rfl
theorem tE_tE' (z : TxT) (v : Int32) : tE (tE' z v) = v := rfl
def wUn (cy : Nat → ClassId) (a0 a1 a2 a3 a4 a5 : Nat) (z : UnT) : va_W := [(a0, .inr (5, [.ref a1, .ref a2, .ref a3, .ref a4, .ref a5, .int (uN z)])), (a1, .inl (cy 0, 16, .inl (uK z))), (a2, .inl (cy 0, 16, .inl (uO z))), (a3, .inl (cy 0, 16, .inl (uP z))), (a4, .inl (cy 0, 16, .inl (uQ z))), (a5, .inl (cy 0, 16, .inl (uD z)))]
def wCo (cy : Nat → ClassId) (a0 a1 a2 a3 : Nat) (z : CoT) : va_W := [(a0, .inr (0, [.ref a1, .ref a2, .ref a3])), (a1, .inl (cy 0, 30, .inl (cK z))), (a2, .inl (cy 0, 30, .inl (cD z))), (a3, .inl (cy 0, 5, .inl (cC z)))]
def wDe (cy : Nat → ClassId) (a0 a1 : Nat) (z : Nat → Int32) : va_W := [(a0, .inr (1, [.ref a1])), (a1, .inl (cy 0, 225, .inl z))]
def wSt (cy : Nat → ClassId) (a : Nat → Nat) (z : StT) : va_W := (a 0, .inr (3, [.ref (a 1), .ref (a 7), .ref (a 11), .ref (a 13), .ref (a 14), .int (sT z), .int (sK z), .int (sX z), .int (sO z)])) :: (wUn cy (a 1) (a 2) (a 3) (a 4) (a 5) (a 6) (sU z) ++ (wCo cy (a 7) (a 8) (a 9) (a 10) (sC z) ++ (wDe cy (a 11) (a 12) (sD z) ++ [(a 13, .inl (cy 0, 5, .inl (sA z))), (a 14, .inl (cy 0, 3, .inl (sS z)))])))
def wTx (cy : Nat → ClassId) (a0 a1 : Nat) (z : TxT) : va_W := [(a0, .inr (4, [.ref a1, .int (tL z), .int (tC z), .int (tF z), .int (tG z), .int (tH z), .int (tE z)])), (a1, .inl (cy 0, 120, .inl (tS z)))]
/-- what the methods of a class are given of its numbers -/
def uOK (z : UnT) : Prop := 0 ≤ (uN z).toInt ∧ (uN z).toInt ≤ 16
def coOK (z : CoT) : Prop := ∀ h : Nat, h < 5 → 0 ≤ (cC z h).toInt ∧ (cC z h).toInt ≤ 6
def stOK (z : StT) : Prop := uOK (sU z) ∧ coOK (sC z)
theorem stOK.mk {z : StT} (h1 : uOK (sU z)) (h2 : coOK (sC z)) : stOK z := ⟨h1, h2⟩
theorem va_P_nil {D : va_G} {cl : List vw_C} {H : Heap} : va_P D cl [] H := fun k q h => by simp at h
theorem i32_le {x y : Int32} : x ≤ y ↔ x.toInt ≤ y.toInt := Int32.le_iff_toInt_le
theorem i32_lt {x y : Int32} : x < y ↔ x.toInt < y.toInt := Int32.lt_iff_toInt_lt
theorem i32_0 : (0 : Int32).toInt = 0 := by decide
theorem i32_1 : (1 : Int32).toInt = 1 := by decide
theorem i32_lo (x : Int32) : -2147483648 ≤ x.toInt := Int32.le_toInt x
theorem i32_hi (x : Int32) : x.toInt < 2147483648 := Int32.toInt_lt x
theorem bmod_of {a : Int} (h1 : -2147483648 ≤ a) (h2 : a < 2147483648) : a.bmod 4294967296 = a := by
  rw [Int.bmod_def]; omega
theorem i32_add {x y : Int32} (h1 : -2147483648 ≤ x.toInt + y.toInt) (h2 : x.toInt + y.toInt < 2147483648) : (x + y).toInt = x.toInt + y.toInt := by
  rw [Int32.toInt_add]; exact bmod_of h1 h2
theorem i32_sub {x y : Int32} (h1 : -2147483648 ≤ x.toInt - y.toInt) (h2 : x.toInt - y.toInt < 2147483648) : (x - y).toInt = x.toInt - y.toInt := by
  rw [Int32.toInt_sub]; exact bmod_of h1 h2
theorem i32_mul {x y : Int32} (h1 : -2147483648 ≤ x.toInt * y.toInt) (h2 : x.toInt * y.toInt < 2147483648) : (x * y).toInt = x.toInt * y.toInt := by
  rw [Int32.toInt_mul]; exact bmod_of h1 h2
theorem lp_init {B : Int32} {M F : Nat} (h : B.toInt ≤ M) (hM : M < F) : (B.toInt - (0 : Int32).toInt).toNat < F := by
  rw [i32_0]; omega
theorem lp_init1 {B : Int32} {M F : Nat} (h : B.toInt ≤ M) (hM : M < F) : (B.toInt - (1 : Int32).toInt).toNat < F := by
  rw [i32_1]; omega
theorem lp_s {x B : Int32} (h1 : ¬ B ≤ x) : (x + 1).toInt = x.toInt + 1 := by
  rw [i32_le] at h1
  have := i32_lo x
  have := i32_hi B
  rw [i32_add (by rw [i32_1]; omega) (by rw [i32_1]; omega), i32_1]
theorem lp_up {x B : Int32} (h0 : 0 ≤ x.toInt) (h1 : ¬ B ≤ x) : 0 ≤ (x + 1).toInt := by
  rw [lp_s h1]; omega
theorem lp_dec {x B : Int32} {n : Nat} (h0 : 0 ≤ x.toInt) (h1 : ¬ B ≤ x) (hm : (B.toInt - x.toInt).toNat < n + 1) : (B.toInt - (x + 1).toInt).toNat < n := by
  rw [lp_s h1]
  rw [i32_le] at h1
  omega
theorem bd_loop {x B : Int32} {N : Nat} (h0 : 0 ≤ x.toInt) (h1 : ¬ B ≤ x) (h : B.toInt ≤ N) : vp_in x N := by
  rw [i32_le] at h1
  exact vp_in_iff.mpr ⟨h0, by omega⟩
theorem bd_of {x : Int32} {N : Nat} (h0 : 0 ≤ x.toInt) (h1 : x.toInt < N) : vp_in x N := vp_in_iff.mpr ⟨h0, h1⟩
section CALLS2
variable {p : Program} {l : Launch} {e : Env} {R : Room} {s : State} {m : MethodId} {args : Array Value} {below : List Frame} {meth : Method} {c : Code} {H : Heap} {locs : List Loc} {cells slots : Nat} {Q : State → Prop}
variable {pc : Nat} {ls : Array Slot} {rest : List Value} {D : va_G} {cy : Nat → ClassId} {cc : ByteArray} {nL : Nat}
variable {y : MethodName} {bytes : ByteArray} {maxL n index : Nat} {ret : Option FieldType} {wy ws' : List Cond} {rm : Room} {Ts : List Cond} {own : String} {b : Addr} {As : List Value} {st0 : List Value} {wc w' : va_W} {v : Int32}
theorem roSX (hc : RO l D cy y wy rm wc As v) (S : CallFix p m c cc nL s args Ts own) (hT : GoodIn Ts (va_wsS own index y wy)) (hw : wy = Cond.code y bytes maxL ret :: ws') (hd : y.cls ≠ "java/lang/invoke/MethodHandle" ∧ y.cls ≠ "java/lang/invoke/VarHandle" ∧ (parseMethodDescriptor y.desc).map (fun d => d.parameters.length) = some n)
    (hrm : rm.cells = 0 ∧ rm.slots = 0 ∧ rm.frames + 1 ≤ R.frames ∧ 8 + (maxL + 11) + rm.locals ≤ R.locals) (hG : GK D cy s) (hP : va_P D vwCl wc H) (hn : As.length = n) (hsize : ls.size = nL) (hst : st0 = As.reverse ++ rest) (hW : (rest.map fun v => v.category).sum ≤ 8) (hdg : decode cc pc = .ok (.invokestatic index, 3)) (hf : cells ≤ R.cells ∧ slots ≤ R.slots)
    (kk : W p l e R s m args below meth c H locs cells slots Q (F0 m (pc + 3) ls (.int v :: rest))) : W p l e R s m args below meth c H locs cells slots Q (F0 m pc ls st0) :=
  ro_go (va_runS (As := As) (rest := rest) S hc (va_cwS n S.2.2.2.2 hT hw hrm.1 hrm.2.1 hd hrm.2.2) (pre_ro hG hP) rfl hn hsize hst (lv_room hW) hdg hf) kk
end CALLS2
