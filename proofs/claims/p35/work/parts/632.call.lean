/-! p35: the contract of call, case by case -/
set_option maxRecDepth 20000 in
theorem c_L_call_0 (l : Launch) (hl0 : l.stackTraces = false) (D : va_G) (cy : Nat → ClassId) (t : FxA) (xa sa sb tr na : Nat → Nat) (ka : Nat → Nat → Nat) {z : SpT} (hz : OKz z) (a b c : Int32) : HW 9 1 6 240 l D cy t yL_call wc_call (wSp cy xa sa sb tr na ka z) (wSp cy xa sa sb tr na ka (callP z 0 a b c).2.2) [.ref (xa 0), .int (0 : Int32), .int a, .int b, .int c] (kV (callP z 0 a b c)) := by
  refine HW.body (by decide) rfl (Nat.le_of_ble_eq_true rfl) ?_
  intro p e s m below meth c9 hx hb hml hr hts hown hlocks hP hG ls hl A hD hA hS hF
  have hl : lv_has ls 5 [(0, .ref (xa 0)), (1, .int (0 : Int32)), (2, .int a), (3, .int b), (4, .int c)] := hl
  have hCF : CallFix p m c9 cL_call 5 s ([.ref (xa 0), .int (0 : Int32), .int a, .int b, .int c] : List Value).toArray wc_call RL := ⟨hx, hb, hml, hown, hts⟩
  refine lv_iload_n hx hb dL_call_0 rfl (lv_at hl 1 rfl) ?_
  refine lv_tableIn (tgt := 108) hx hb dL_call_1 (by decide) (by decide) rfl (by decide) ?_
  refine lv_aload_n hx hb dL_call_108 rfl (lv_at hl 0 rfl) ?_
  refine lv_iload_n hx hb dL_call_109 rfl (lv_at hl 2 rfl) ?_
  refine hwSW (A0 := A) (As := [.ref (xa 0), .int a]) (rest := []) (W1 := wSp cy xa sa sb tr na ka z) (W2 := wSp cy xa sa sb tr na ka (callP z 0 a b c).2.2) (v := kV (callP z 0 a b c)) (c_L_tryAppend l hl0 D cy t xa sa sb tr na ka hz a) hCF gw_L_tryAppend.more rfl hq_L_tryAppend ⟨Nat.le_of_ble_eq_true rfl, Nat.le_of_ble_eq_true rfl⟩ hG hF hP hD hS hA h_Sp rfl hl.1 rfl (Nat.le_of_ble_eq_true rfl) dL_call_110 ⟨Nat.le_of_ble_eq_true rfl, Nat.le_of_ble_eq_true rfl⟩ (fun H locs hP hD hS => ?_)
  exact hw_iret hx hb hr hlocks hP hS (Nat.le_refl _) (Nat.le_refl _) dL_call_113 rfl rfl
set_option maxRecDepth 20000 in
theorem c_L_call_1 (l : Launch) (hl0 : l.stackTraces = false) (D : va_G) (cy : Nat → ClassId) (t : FxA) (xa sa sb tr na : Nat → Nat) (ka : Nat → Nat → Nat) {z : SpT} (hz : OKz z) (a b c : Int32) : HW 9 1 6 240 l D cy t yL_call wc_call (wSp cy xa sa sb tr na ka z) (wSp cy xa sa sb tr na ka (callP z 1 a b c).2.2) [.ref (xa 0), .int (1 : Int32), .int a, .int b, .int c] (kV (callP z 1 a b c)) := by
  refine HW.body (by decide) rfl (Nat.le_of_ble_eq_true rfl) ?_
  intro p e s m below meth c9 hx hb hml hr hts hown hlocks hP hG ls hl A hD hA hS hF
  have hl : lv_has ls 5 [(0, .ref (xa 0)), (1, .int (1 : Int32)), (2, .int a), (3, .int b), (4, .int c)] := hl
  have hCF : CallFix p m c9 cL_call 5 s ([.ref (xa 0), .int (1 : Int32), .int a, .int b, .int c] : List Value).toArray wc_call RL := ⟨hx, hb, hml, hown, hts⟩
  refine lv_iload_n hx hb dL_call_0 rfl (lv_at hl 1 rfl) ?_
  refine lv_tableIn (tgt := 114) hx hb dL_call_1 (by decide) (by decide) rfl (by decide) ?_
  refine lv_aload_n hx hb dL_call_114 rfl (lv_at hl 0 rfl) ?_
  refine hwSW (A0 := A) (As := [.ref (xa 0)]) (rest := []) (W1 := wSp cy xa sa sb tr na ka z) (W2 := wSp cy xa sa sb tr na ka (callP z 1 a b c).2.2) (v := kV (callP z 1 a b c)) (c_L_tryLoad l hl0 D cy t xa sa sb tr na ka hz) hCF gw_L_tryLoad.more rfl hq_L_tryLoad ⟨Nat.le_of_ble_eq_true rfl, Nat.le_of_ble_eq_true rfl⟩ hG hF hP hD hS hA h_Sp rfl hl.1 rfl (Nat.le_of_ble_eq_true rfl) dL_call_115 ⟨Nat.le_of_ble_eq_true rfl, Nat.le_of_ble_eq_true rfl⟩ (fun H locs hP hD hS => ?_)
  exact hw_iret hx hb hr hlocks hP hS (Nat.le_refl _) (Nat.le_refl _) dL_call_118 rfl rfl
set_option maxRecDepth 20000 in
theorem c_L_call_2 (l : Launch) (hl0 : l.stackTraces = false) (D : va_G) (cy : Nat → ClassId) (t : FxA) (xa sa sb tr na : Nat → Nat) (ka : Nat → Nat → Nat) {z : SpT} (hz : OKz z) (a b c : Int32) : HW 9 1 6 240 l D cy t yL_call wc_call (wSp cy xa sa sb tr na ka z) (wSp cy xa sa sb tr na ka (callP z 2 a b c).2.2) [.ref (xa 0), .int (2 : Int32), .int a, .int b, .int c] (kV (callP z 2 a b c)) := by
  refine HW.body (by decide) rfl (Nat.le_of_ble_eq_true rfl) ?_
  intro p e s m below meth c9 hx hb hml hr hts hown hlocks hP hG ls hl A hD hA hS hF
  have hl : lv_has ls 5 [(0, .ref (xa 0)), (1, .int (2 : Int32)), (2, .int a), (3, .int b), (4, .int c)] := hl
  have hCF : CallFix p m c9 cL_call 5 s ([.ref (xa 0), .int (2 : Int32), .int a, .int b, .int c] : List Value).toArray wc_call RL := ⟨hx, hb, hml, hown, hts⟩
  refine lv_iload_n hx hb dL_call_0 rfl (lv_at hl 1 rfl) ?_
  refine lv_tableIn (tgt := 119) hx hb dL_call_1 (by decide) (by decide) rfl (by decide) ?_
  refine lv_aload_n hx hb dL_call_119 rfl (lv_at hl 0 rfl) ?_
  refine lv_iload_n hx hb dL_call_120 rfl (lv_at hl 2 rfl) ?_
  refine hwSW (A0 := A) (As := [.ref (xa 0), .int a]) (rest := []) (W1 := wSp cy xa sa sb tr na ka z) (W2 := wSp cy xa sa sb tr na ka (callP z 2 a b c).2.2) (v := kV (callP z 2 a b c)) (c_L_tryAbout l hl0 D cy t xa sa sb tr na ka hz a) hCF gw_L_tryAbout.more rfl hq_L_tryAbout ⟨Nat.le_of_ble_eq_true rfl, Nat.le_of_ble_eq_true rfl⟩ hG hF hP hD hS hA h_Sp rfl hl.1 rfl (Nat.le_of_ble_eq_true rfl) dL_call_121 ⟨Nat.le_of_ble_eq_true rfl, Nat.le_of_ble_eq_true rfl⟩ (fun H locs hP hD hS => ?_)
  exact hw_iret hx hb hr hlocks hP hS (Nat.le_refl _) (Nat.le_refl _) dL_call_124 rfl rfl
set_option maxRecDepth 20000 in
theorem c_L_call_3 (l : Launch) (hl0 : l.stackTraces = false) (D : va_G) (cy : Nat → ClassId) (t : FxA) (xa sa sb tr na : Nat → Nat) (ka : Nat → Nat → Nat) {z : SpT} (hz : OKz z) (a b c : Int32) : HW 9 1 6 240 l D cy t yL_call wc_call (wSp cy xa sa sb tr na ka z) (wSp cy xa sa sb tr na ka (callP z 3 a b c).2.2) [.ref (xa 0), .int (3 : Int32), .int a, .int b, .int c] (kV (callP z 3 a b c)) := by
  refine HW.body (by decide) rfl (Nat.le_of_ble_eq_true rfl) ?_
  intro p e s m below meth c9 hx hb hml hr hts hown hlocks hP hG ls hl A hD hA hS hF
  have hl : lv_has ls 5 [(0, .ref (xa 0)), (1, .int (3 : Int32)), (2, .int a), (3, .int b), (4, .int c)] := hl
  have hCF : CallFix p m c9 cL_call 5 s ([.ref (xa 0), .int (3 : Int32), .int a, .int b, .int c] : List Value).toArray wc_call RL := ⟨hx, hb, hml, hown, hts⟩
  refine lv_iload_n hx hb dL_call_0 rfl (lv_at hl 1 rfl) ?_
  refine lv_tableIn (tgt := 125) hx hb dL_call_1 (by decide) (by decide) rfl (by decide) ?_
  refine lv_aload_n hx hb dL_call_125 rfl (lv_at hl 0 rfl) ?_
  refine lv_iload_n hx hb dL_call_126 rfl (lv_at hl 2 rfl) ?_
  refine lv_iload_n hx hb dL_call_127 rfl (lv_at hl 3 rfl) ?_
  refine hwSW (A0 := A) (As := [.ref (xa 0), .int a, .int b]) (rest := []) (W1 := wSp cy xa sa sb tr na ka z) (W2 := wSp cy xa sa sb tr na ka (callP z 3 a b c).2.2) (v := kV (callP z 3 a b c)) (c_L_tryUnit l hl0 D cy t xa sa sb tr na ka hz a b) hCF gw_L_tryUnit.more rfl hq_L_tryUnit ⟨Nat.le_of_ble_eq_true rfl, Nat.le_of_ble_eq_true rfl⟩ hG hF hP hD hS hA h_Sp rfl hl.1 rfl (Nat.le_of_ble_eq_true rfl) dL_call_128 ⟨Nat.le_of_ble_eq_true rfl, Nat.le_of_ble_eq_true rfl⟩ (fun H locs hP hD hS => ?_)
  exact hw_iret hx hb hr hlocks hP hS (Nat.le_refl _) (Nat.le_refl _) dL_call_131 rfl rfl
set_option maxRecDepth 20000 in
theorem c_L_call_4 (l : Launch) (hl0 : l.stackTraces = false) (D : va_G) (cy : Nat → ClassId) (t : FxA) (xa sa sb tr na : Nat → Nat) (ka : Nat → Nat → Nat) {z : SpT} (hz : OKz z) (a b c : Int32) : HW 9 1 6 240 l D cy t yL_call wc_call (wSp cy xa sa sb tr na ka z) (wSp cy xa sa sb tr na ka (callP z 4 a b c).2.2) [.ref (xa 0), .int (4 : Int32), .int a, .int b, .int c] (kV (callP z 4 a b c)) := by
  refine HW.body (by decide) rfl (Nat.le_of_ble_eq_true rfl) ?_
  intro p e s m below meth c9 hx hb hml hr hts hown hlocks hP hG ls hl A hD hA hS hF
  have hl : lv_has ls 5 [(0, .ref (xa 0)), (1, .int (4 : Int32)), (2, .int a), (3, .int b), (4, .int c)] := hl
  have hCF : CallFix p m c9 cL_call 5 s ([.ref (xa 0), .int (4 : Int32), .int a, .int b, .int c] : List Value).toArray wc_call RL := ⟨hx, hb, hml, hown, hts⟩
  refine lv_iload_n hx hb dL_call_0 rfl (lv_at hl 1 rfl) ?_
  refine lv_tableIn (tgt := 132) hx hb dL_call_1 (by decide) (by decide) rfl (by decide) ?_
  refine lv_aload_n hx hb dL_call_132 rfl (lv_at hl 0 rfl) ?_
  refine lv_iload_n hx hb dL_call_133 rfl (lv_at hl 2 rfl) ?_
  refine lv_iload_n hx hb dL_call_134 rfl (lv_at hl 3 rfl) ?_
  refine hwSW (A0 := A) (As := [.ref (xa 0), .int a, .int b]) (rest := []) (W1 := wSp cy xa sa sb tr na ka z) (W2 := wSp cy xa sa sb tr na ka (callP z 4 a b c).2.2) (v := kV (callP z 4 a b c)) (c_L_tryHolder l hl0 D cy t xa sa sb tr na ka hz a b) hCF gw_L_tryHolder.more rfl hq_L_tryHolder ⟨Nat.le_of_ble_eq_true rfl, Nat.le_of_ble_eq_true rfl⟩ hG hF hP hD hS hA h_Sp rfl hl.1 rfl (Nat.le_of_ble_eq_true rfl) dL_call_135 ⟨Nat.le_of_ble_eq_true rfl, Nat.le_of_ble_eq_true rfl⟩ (fun H locs hP hD hS => ?_)
  exact hw_iret hx hb hr hlocks hP hS (Nat.le_refl _) (Nat.le_refl _) dL_call_138 rfl rfl
set_option maxRecDepth 20000 in
theorem c_L_call_5 (l : Launch) (hl0 : l.stackTraces = false) (D : va_G) (cy : Nat → ClassId) (t : FxA) (xa sa sb tr na : Nat → Nat) (ka : Nat → Nat → Nat) {z : SpT} (hz : OKz z) (a b c : Int32) : HW 9 1 6 240 l D cy t yL_call wc_call (wSp cy xa sa sb tr na ka z) (wSp cy xa sa sb tr na ka (callP z 5 a b c).2.2) [.ref (xa 0), .int (5 : Int32), .int a, .int b, .int c] (kV (callP z 5 a b c)) := by
  refine HW.body (by decide) rfl (Nat.le_of_ble_eq_true rfl) ?_
  intro p e s m below meth c9 hx hb hml hr hts hown hlocks hP hG ls hl A hD hA hS hF
  have hl : lv_has ls 5 [(0, .ref (xa 0)), (1, .int (5 : Int32)), (2, .int a), (3, .int b), (4, .int c)] := hl
  have hCF : CallFix p m c9 cL_call 5 s ([.ref (xa 0), .int (5 : Int32), .int a, .int b, .int c] : List Value).toArray wc_call RL := ⟨hx, hb, hml, hown, hts⟩
  refine lv_iload_n hx hb dL_call_0 rfl (lv_at hl 1 rfl) ?_
  refine lv_tableIn (tgt := 139) hx hb dL_call_1 (by decide) (by decide) rfl (by decide) ?_
  refine lv_aload_n hx hb dL_call_139 rfl (lv_at hl 0 rfl) ?_
  refine lv_iload_n hx hb dL_call_140 rfl (lv_at hl 2 rfl) ?_
  refine lv_iload_n hx hb dL_call_141 rfl (lv_at hl 3 rfl) ?_
  refine lv_iload hx hb dL_call_142 (lv_at hl 4 rfl) ?_
  refine hwSW (A0 := A) (As := [.ref (xa 0), .int a, .int b, .int c]) (rest := []) (W1 := wSp cy xa sa sb tr na ka z) (W2 := wSp cy xa sa sb tr na ka (callP z 5 a b c).2.2) (v := kV (callP z 5 a b c)) (c_L_tryCore l hl0 D cy t xa sa sb tr na ka hz a b c) hCF gw_L_tryCore.more rfl hq_L_tryCore ⟨Nat.le_of_ble_eq_true rfl, Nat.le_of_ble_eq_true rfl⟩ hG hF hP hD hS hA h_Sp rfl hl.1 rfl (Nat.le_of_ble_eq_true rfl) dL_call_144 ⟨Nat.le_of_ble_eq_true rfl, Nat.le_of_ble_eq_true rfl⟩ (fun H locs hP hD hS => ?_)
  exact hw_iret hx hb hr hlocks hP hS (Nat.le_refl _) (Nat.le_refl _) dL_call_147 rfl rfl
set_option maxRecDepth 20000 in
theorem c_L_call_6 (l : Launch) (hl0 : l.stackTraces = false) (D : va_G) (cy : Nat → ClassId) (t : FxA) (xa sa sb tr na : Nat → Nat) (ka : Nat → Nat → Nat) {z : SpT} (hz : OKz z) (a b c : Int32) : HW 9 1 6 240 l D cy t yL_call wc_call (wSp cy xa sa sb tr na ka z) (wSp cy xa sa sb tr na ka (callP z 6 a b c).2.2) [.ref (xa 0), .int (6 : Int32), .int a, .int b, .int c] (kV (callP z 6 a b c)) := by
  refine HW.body (by decide) rfl (Nat.le_of_ble_eq_true rfl) ?_
  intro p e s m below meth c9 hx hb hml hr hts hown hlocks hP hG ls hl A hD hA hS hF
  have hl : lv_has ls 5 [(0, .ref (xa 0)), (1, .int (6 : Int32)), (2, .int a), (3, .int b), (4, .int c)] := hl
  have hCF : CallFix p m c9 cL_call 5 s ([.ref (xa 0), .int (6 : Int32), .int a, .int b, .int c] : List Value).toArray wc_call RL := ⟨hx, hb, hml, hown, hts⟩
  refine lv_iload_n hx hb dL_call_0 rfl (lv_at hl 1 rfl) ?_
  refine lv_tableIn (tgt := 148) hx hb dL_call_1 (by decide) (by decide) rfl (by decide) ?_
  refine lv_aload_n hx hb dL_call_148 rfl (lv_at hl 0 rfl) ?_
  refine lv_iload_n hx hb dL_call_149 rfl (lv_at hl 2 rfl) ?_
  refine hwSW (A0 := A) (As := [.ref (xa 0), .int a]) (rest := []) (W1 := wSp cy xa sa sb tr na ka z) (W2 := wSp cy xa sa sb tr na ka (callP z 6 a b c).2.2) (v := kV (callP z 6 a b c)) (c_L_trySetting l hl0 D cy t xa sa sb tr na ka hz a) hCF gw_L_trySetting.more rfl hq_L_trySetting ⟨Nat.le_of_ble_eq_true rfl, Nat.le_of_ble_eq_true rfl⟩ hG hF hP hD hS hA h_Sp rfl hl.1 rfl (Nat.le_of_ble_eq_true rfl) dL_call_150 ⟨Nat.le_of_ble_eq_true rfl, Nat.le_of_ble_eq_true rfl⟩ (fun H locs hP hD hS => ?_)
  exact hw_iret hx hb hr hlocks hP hS (Nat.le_refl _) (Nat.le_refl _) dL_call_153 rfl rfl
set_option maxRecDepth 20000 in
theorem c_L_call_7 (l : Launch) (hl0 : l.stackTraces = false) (D : va_G) (cy : Nat → ClassId) (t : FxA) (xa sa sb tr na : Nat → Nat) (ka : Nat → Nat → Nat) {z : SpT} (hz : OKz z) (a b c : Int32) : HW 9 1 6 240 l D cy t yL_call wc_call (wSp cy xa sa sb tr na ka z) (wSp cy xa sa sb tr na ka (callP z 7 a b c).2.2) [.ref (xa 0), .int (7 : Int32), .int a, .int b, .int c] (kV (callP z 7 a b c)) := by
  refine HW.body (by decide) rfl (Nat.le_of_ble_eq_true rfl) ?_
  intro p e s m below meth c9 hx hb hml hr hts hown hlocks hP hG ls hl A hD hA hS hF
  have hl : lv_has ls 5 [(0, .ref (xa 0)), (1, .int (7 : Int32)), (2, .int a), (3, .int b), (4, .int c)] := hl
  have hCF : CallFix p m c9 cL_call 5 s ([.ref (xa 0), .int (7 : Int32), .int a, .int b, .int c] : List Value).toArray wc_call RL := ⟨hx, hb, hml, hown, hts⟩
  refine lv_iload_n hx hb dL_call_0 rfl (lv_at hl 1 rfl) ?_
  refine lv_tableIn (tgt := 154) hx hb dL_call_1 (by decide) (by decide) rfl (by decide) ?_
  refine lv_aload_n hx hb dL_call_154 rfl (lv_at hl 0 rfl) ?_
  refine lv_iload_n hx hb dL_call_155 rfl (lv_at hl 2 rfl) ?_
  refine lv_iload_n hx hb dL_call_156 rfl (lv_at hl 3 rfl) ?_
  refine lv_iload hx hb dL_call_157 (lv_at hl 4 rfl) ?_
  refine hwSW (A0 := A) (As := [.ref (xa 0), .int a, .int b, .int c]) (rest := []) (W1 := wSp cy xa sa sb tr na ka z) (W2 := wSp cy xa sa sb tr na ka (callP z 7 a b c).2.2) (v := kV (callP z 7 a b c)) (c_L_tryCome l hl0 D cy t xa sa sb tr na ka hz a b c) hCF gw_L_tryCome.more rfl hq_L_tryCome ⟨Nat.le_of_ble_eq_true rfl, Nat.le_of_ble_eq_true rfl⟩ hG hF hP hD hS hA h_Sp rfl hl.1 rfl (Nat.le_of_ble_eq_true rfl) dL_call_159 ⟨Nat.le_of_ble_eq_true rfl, Nat.le_of_ble_eq_true rfl⟩ (fun H locs hP hD hS => ?_)
  exact hw_iret hx hb hr hlocks hP hS (Nat.le_refl _) (Nat.le_refl _) dL_call_162 rfl rfl
set_option maxRecDepth 20000 in
theorem c_L_call_8 (l : Launch) (hl0 : l.stackTraces = false) (D : va_G) (cy : Nat → ClassId) (t : FxA) (xa sa sb tr na : Nat → Nat) (ka : Nat → Nat → Nat) {z : SpT} (hz : OKz z) (a b c : Int32) : HW 9 1 6 240 l D cy t yL_call wc_call (wSp cy xa sa sb tr na ka z) (wSp cy xa sa sb tr na ka (callP z 8 a b c).2.2) [.ref (xa 0), .int (8 : Int32), .int a, .int b, .int c] (kV (callP z 8 a b c)) := by
  refine HW.body (by decide) rfl (Nat.le_of_ble_eq_true rfl) ?_
  intro p e s m below meth c9 hx hb hml hr hts hown hlocks hP hG ls hl A hD hA hS hF
  have hl : lv_has ls 5 [(0, .ref (xa 0)), (1, .int (8 : Int32)), (2, .int a), (3, .int b), (4, .int c)] := hl
  have hCF : CallFix p m c9 cL_call 5 s ([.ref (xa 0), .int (8 : Int32), .int a, .int b, .int c] : List Value).toArray wc_call RL := ⟨hx, hb, hml, hown, hts⟩
  refine lv_iload_n hx hb dL_call_0 rfl (lv_at hl 1 rfl) ?_
  refine lv_tableIn (tgt := 163) hx hb dL_call_1 (by decide) (by decide) rfl (by decide) ?_
  refine lv_aload_n hx hb dL_call_163 rfl (lv_at hl 0 rfl) ?_
  refine lv_iload_n hx hb dL_call_164 rfl (lv_at hl 2 rfl) ?_
  refine lv_iload_n hx hb dL_call_165 rfl (lv_at hl 3 rfl) ?_
  refine lv_iload hx hb dL_call_166 (lv_at hl 4 rfl) ?_
  refine hwSW (A0 := A) (As := [.ref (xa 0), .int a, .int b, .int c]) (rest := []) (W1 := wSp cy xa sa sb tr na ka z) (W2 := wSp cy xa sa sb tr na ka (callP z 8 a b c).2.2) (v := kV (callP z 8 a b c)) (c_L_tryLend l hl0 D cy t xa sa sb tr na ka hz a b c) hCF gw_L_tryLend.more rfl hq_L_tryLend ⟨Nat.le_of_ble_eq_true rfl, Nat.le_of_ble_eq_true rfl⟩ hG hF hP hD hS hA h_Sp rfl hl.1 rfl (Nat.le_of_ble_eq_true rfl) dL_call_168 ⟨Nat.le_of_ble_eq_true rfl, Nat.le_of_ble_eq_true rfl⟩ (fun H locs hP hD hS => ?_)
  exact hw_iret hx hb hr hlocks hP hS (Nat.le_refl _) (Nat.le_refl _) dL_call_171 rfl rfl
set_option maxRecDepth 20000 in
theorem c_L_call_9 (l : Launch) (hl0 : l.stackTraces = false) (D : va_G) (cy : Nat → ClassId) (t : FxA) (xa sa sb tr na : Nat → Nat) (ka : Nat → Nat → Nat) {z : SpT} (hz : OKz z) (a b c : Int32) : HW 9 1 6 240 l D cy t yL_call wc_call (wSp cy xa sa sb tr na ka z) (wSp cy xa sa sb tr na ka (callP z 9 a b c).2.2) [.ref (xa 0), .int (9 : Int32), .int a, .int b, .int c] (kV (callP z 9 a b c)) := by
  refine HW.body (by decide) rfl (Nat.le_of_ble_eq_true rfl) ?_
  intro p e s m below meth c9 hx hb hml hr hts hown hlocks hP hG ls hl A hD hA hS hF
  have hl : lv_has ls 5 [(0, .ref (xa 0)), (1, .int (9 : Int32)), (2, .int a), (3, .int b), (4, .int c)] := hl
  have hCF : CallFix p m c9 cL_call 5 s ([.ref (xa 0), .int (9 : Int32), .int a, .int b, .int c] : List Value).toArray wc_call RL := ⟨hx, hb, hml, hown, hts⟩
  refine lv_iload_n hx hb dL_call_0 rfl (lv_at hl 1 rfl) ?_
  refine lv_tableIn (tgt := 172) hx hb dL_call_1 (by decide) (by decide) rfl (by decide) ?_
  refine lv_aload_n hx hb dL_call_172 rfl (lv_at hl 0 rfl) ?_
  refine lv_iload_n hx hb dL_call_173 rfl (lv_at hl 2 rfl) ?_
  refine hwSW (A0 := A) (As := [.ref (xa 0), .int a]) (rest := []) (W1 := wSp cy xa sa sb tr na ka z) (W2 := wSp cy xa sa sb tr na ka (callP z 9 a b c).2.2) (v := kV (callP z 9 a b c)) (c_L_tryBring l hl0 D cy t xa sa sb tr na ka hz a) hCF gw_L_tryBring.more rfl hq_L_tryBring ⟨Nat.le_of_ble_eq_true rfl, Nat.le_of_ble_eq_true rfl⟩ hG hF hP hD hS hA h_Sp rfl hl.1 rfl (Nat.le_of_ble_eq_true rfl) dL_call_174 ⟨Nat.le_of_ble_eq_true rfl, Nat.le_of_ble_eq_true rfl⟩ (fun H locs hP hD hS => ?_)
  exact hw_iret hx hb hr hlocks hP hS (Nat.le_refl _) (Nat.le_refl _) dL_call_177 rfl rfl
set_option maxRecDepth 20000 in
theorem c_L_call_10 (l : Launch) (hl0 : l.stackTraces = false) (D : va_G) (cy : Nat → ClassId) (t : FxA) (xa sa sb tr na : Nat → Nat) (ka : Nat → Nat → Nat) {z : SpT} (hz : OKz z) (a b c : Int32) : HW 9 1 6 240 l D cy t yL_call wc_call (wSp cy xa sa sb tr na ka z) (wSp cy xa sa sb tr na ka (callP z 10 a b c).2.2) [.ref (xa 0), .int (10 : Int32), .int a, .int b, .int c] (kV (callP z 10 a b c)) := by
  refine HW.body (by decide) rfl (Nat.le_of_ble_eq_true rfl) ?_
  intro p e s m below meth c9 hx hb hml hr hts hown hlocks hP hG ls hl A hD hA hS hF
  have hl : lv_has ls 5 [(0, .ref (xa 0)), (1, .int (10 : Int32)), (2, .int a), (3, .int b), (4, .int c)] := hl
  have hCF : CallFix p m c9 cL_call 5 s ([.ref (xa 0), .int (10 : Int32), .int a, .int b, .int c] : List Value).toArray wc_call RL := ⟨hx, hb, hml, hown, hts⟩
  refine lv_iload_n hx hb dL_call_0 rfl (lv_at hl 1 rfl) ?_
  refine lv_tableIn (tgt := 178) hx hb dL_call_1 (by decide) (by decide) rfl (by decide) ?_
  refine lv_aload_n hx hb dL_call_178 rfl (lv_at hl 0 rfl) ?_
  refine lv_iload_n hx hb dL_call_179 rfl (lv_at hl 2 rfl) ?_
  refine lv_iload_n hx hb dL_call_180 rfl (lv_at hl 3 rfl) ?_
  refine hwSW (A0 := A) (As := [.ref (xa 0), .int a, .int b]) (rest := []) (W1 := wSp cy xa sa sb tr na ka z) (W2 := wSp cy xa sa sb tr na ka (callP z 10 a b c).2.2) (v := kV (callP z 10 a b c)) (c_L_tryExchange l hl0 D cy t xa sa sb tr na ka hz a b) hCF gw_L_tryExchange.more rfl hq_L_tryExchange ⟨Nat.le_of_ble_eq_true rfl, Nat.le_of_ble_eq_true rfl⟩ hG hF hP hD hS hA h_Sp rfl hl.1 rfl (Nat.le_of_ble_eq_true rfl) dL_call_181 ⟨Nat.le_of_ble_eq_true rfl, Nat.le_of_ble_eq_true rfl⟩ (fun H locs hP hD hS => ?_)
  exact hw_iret hx hb hr hlocks hP hS (Nat.le_refl _) (Nat.le_refl _) dL_call_184 rfl rfl
set_option maxRecDepth 20000 in
theorem c_L_call_11 (l : Launch) (hl0 : l.stackTraces = false) (D : va_G) (cy : Nat → ClassId) (t : FxA) (xa sa sb tr na : Nat → Nat) (ka : Nat → Nat → Nat) {z : SpT} (hz : OKz z) (a b c : Int32) : HW 9 1 6 240 l D cy t yL_call wc_call (wSp cy xa sa sb tr na ka z) (wSp cy xa sa sb tr na ka (callP z 11 a b c).2.2) [.ref (xa 0), .int (11 : Int32), .int a, .int b, .int c] (kV (callP z 11 a b c)) := by
  refine HW.body (by decide) rfl (Nat.le_of_ble_eq_true rfl) ?_
  intro p e s m below meth c9 hx hb hml hr hts hown hlocks hP hG ls hl A hD hA hS hF
  have hl : lv_has ls 5 [(0, .ref (xa 0)), (1, .int (11 : Int32)), (2, .int a), (3, .int b), (4, .int c)] := hl
  have hCF : CallFix p m c9 cL_call 5 s ([.ref (xa 0), .int (11 : Int32), .int a, .int b, .int c] : List Value).toArray wc_call RL := ⟨hx, hb, hml, hown, hts⟩
  refine lv_iload_n hx hb dL_call_0 rfl (lv_at hl 1 rfl) ?_
  refine lv_tableIn (tgt := 185) hx hb dL_call_1 (by decide) (by decide) rfl (by decide) ?_
  refine lv_aload_n hx hb dL_call_185 rfl (lv_at hl 0 rfl) ?_
  refine lv_iload_n hx hb dL_call_186 rfl (lv_at hl 2 rfl) ?_
  refine lv_iload_n hx hb dL_call_187 rfl (lv_at hl 3 rfl) ?_
  refine lv_iload hx hb dL_call_188 (lv_at hl 4 rfl) ?_
  refine hwSW (A0 := A) (As := [.ref (xa 0), .int a, .int b, .int c]) (rest := []) (W1 := wSp cy xa sa sb tr na ka z) (W2 := wSp cy xa sa sb tr na ka (callP z 11 a b c).2.2) (v := kV (callP z 11 a b c)) (c_L_tryAdvance l hl0 D cy t xa sa sb tr na ka hz a b c) hCF gw_L_tryAdvance.more rfl hq_L_tryAdvance ⟨Nat.le_of_ble_eq_true rfl, Nat.le_of_ble_eq_true rfl⟩ hG hF hP hD hS hA h_Sp rfl hl.1 rfl (Nat.le_of_ble_eq_true rfl) dL_call_190 ⟨Nat.le_of_ble_eq_true rfl, Nat.le_of_ble_eq_true rfl⟩ (fun H locs hP hD hS => ?_)
  exact hw_iret hx hb hr hlocks hP hS (Nat.le_refl _) (Nat.le_refl _) dL_call_193 rfl rfl
set_option maxRecDepth 20000 in
theorem c_L_call_12 (l : Launch) (hl0 : l.stackTraces = false) (D : va_G) (cy : Nat → ClassId) (t : FxA) (xa sa sb tr na : Nat → Nat) (ka : Nat → Nat → Nat) {z : SpT} (hz : OKz z) (a b c : Int32) : HW 9 1 6 240 l D cy t yL_call wc_call (wSp cy xa sa sb tr na ka z) (wSp cy xa sa sb tr na ka (callP z 12 a b c).2.2) [.ref (xa 0), .int (12 : Int32), .int a, .int b, .int c] (kV (callP z 12 a b c)) := by
  refine HW.body (by decide) rfl (Nat.le_of_ble_eq_true rfl) ?_
  intro p e s m below meth c9 hx hb hml hr hts hown hlocks hP hG ls hl A hD hA hS hF
  have hl : lv_has ls 5 [(0, .ref (xa 0)), (1, .int (12 : Int32)), (2, .int a), (3, .int b), (4, .int c)] := hl
  have hCF : CallFix p m c9 cL_call 5 s ([.ref (xa 0), .int (12 : Int32), .int a, .int b, .int c] : List Value).toArray wc_call RL := ⟨hx, hb, hml, hown, hts⟩
  refine lv_iload_n hx hb dL_call_0 rfl (lv_at hl 1 rfl) ?_
  refine lv_tableIn (tgt := 194) hx hb dL_call_1 (by decide) (by decide) rfl (by decide) ?_
  refine lv_aload_n hx hb dL_call_194 rfl (lv_at hl 0 rfl) ?_
  refine lv_iload_n hx hb dL_call_195 rfl (lv_at hl 2 rfl) ?_
  refine hwSW (A0 := A) (As := [.ref (xa 0), .int a]) (rest := []) (W1 := wSp cy xa sa sb tr na ka z) (W2 := wSp cy xa sa sb tr na ka (callP z 12 a b c).2.2) (v := kV (callP z 12 a b c)) (c_L_tryDeliver l hl0 D cy t xa sa sb tr na ka hz a) hCF gw_L_tryDeliver.more rfl hq_L_tryDeliver ⟨Nat.le_of_ble_eq_true rfl, Nat.le_of_ble_eq_true rfl⟩ hG hF hP hD hS hA h_Sp rfl hl.1 rfl (Nat.le_of_ble_eq_true rfl) dL_call_196 ⟨Nat.le_of_ble_eq_true rfl, Nat.le_of_ble_eq_true rfl⟩ (fun H locs hP hD hS => ?_)
  exact hw_iret hx hb hr hlocks hP hS (Nat.le_refl _) (Nat.le_refl _) dL_call_199 rfl rfl
set_option maxRecDepth 20000 in
theorem c_L_call_13 (l : Launch) (hl0 : l.stackTraces = false) (D : va_G) (cy : Nat → ClassId) (t : FxA) (xa sa sb tr na : Nat → Nat) (ka : Nat → Nat → Nat) {z : SpT} (hz : OKz z) (a b c : Int32) : HW 9 1 6 240 l D cy t yL_call wc_call (wSp cy xa sa sb tr na ka z) (wSp cy xa sa sb tr na ka (callP z 13 a b c).2.2) [.ref (xa 0), .int (13 : Int32), .int a, .int b, .int c] (kV (callP z 13 a b c)) := by
  refine HW.body (by decide) rfl (Nat.le_of_ble_eq_true rfl) ?_
  intro p e s m below meth c9 hx hb hml hr hts hown hlocks hP hG ls hl A hD hA hS hF
  have hl : lv_has ls 5 [(0, .ref (xa 0)), (1, .int (13 : Int32)), (2, .int a), (3, .int b), (4, .int c)] := hl
  have hCF : CallFix p m c9 cL_call 5 s ([.ref (xa 0), .int (13 : Int32), .int a, .int b, .int c] : List Value).toArray wc_call RL := ⟨hx, hb, hml, hown, hts⟩
  refine lv_iload_n hx hb dL_call_0 rfl (lv_at hl 1 rfl) ?_
  refine lv_tableIn (tgt := 200) hx hb dL_call_1 (by decide) (by decide) rfl (by decide) ?_
  refine lv_aload_n hx hb dL_call_200 rfl (lv_at hl 0 rfl) ?_
  refine lv_iload_n hx hb dL_call_201 rfl (lv_at hl 2 rfl) ?_
  refine lv_iload_n hx hb dL_call_202 rfl (lv_at hl 3 rfl) ?_
  refine lv_iload hx hb dL_call_203 (lv_at hl 4 rfl) ?_
  refine hwSW (A0 := A) (As := [.ref (xa 0), .int a, .int b, .int c]) (rest := []) (W1 := wSp cy xa sa sb tr na ka z) (W2 := wSp cy xa sa sb tr na ka (callP z 13 a b c).2.2) (v := kV (callP z 13 a b c)) (c_L_tryTake l hl0 D cy t xa sa sb tr na ka hz a b c) hCF gw_L_tryTake.more rfl hq_L_tryTake ⟨Nat.le_of_ble_eq_true rfl, Nat.le_of_ble_eq_true rfl⟩ hG hF hP hD hS hA h_Sp rfl hl.1 rfl (Nat.le_of_ble_eq_true rfl) dL_call_205 ⟨Nat.le_of_ble_eq_true rfl, Nat.le_of_ble_eq_true rfl⟩ (fun H locs hP hD hS => ?_)
  exact hw_iret hx hb hr hlocks hP hS (Nat.le_refl _) (Nat.le_refl _) dL_call_208 rfl rfl
set_option maxRecDepth 20000 in
theorem c_L_call_14 (l : Launch) (hl0 : l.stackTraces = false) (D : va_G) (cy : Nat → ClassId) (t : FxA) (xa sa sb tr na : Nat → Nat) (ka : Nat → Nat → Nat) {z : SpT} (hz : OKz z) (a b c : Int32) : HW 9 1 6 240 l D cy t yL_call wc_call (wSp cy xa sa sb tr na ka z) (wSp cy xa sa sb tr na ka (callP z 14 a b c).2.2) [.ref (xa 0), .int (14 : Int32), .int a, .int b, .int c] (kV (callP z 14 a b c)) := by
  refine HW.body (by decide) rfl (Nat.le_of_ble_eq_true rfl) ?_
  intro p e s m below meth c9 hx hb hml hr hts hown hlocks hP hG ls hl A hD hA hS hF
  have hl : lv_has ls 5 [(0, .ref (xa 0)), (1, .int (14 : Int32)), (2, .int a), (3, .int b), (4, .int c)] := hl
  have hCF : CallFix p m c9 cL_call 5 s ([.ref (xa 0), .int (14 : Int32), .int a, .int b, .int c] : List Value).toArray wc_call RL := ⟨hx, hb, hml, hown, hts⟩
  refine lv_iload_n hx hb dL_call_0 rfl (lv_at hl 1 rfl) ?_
  refine lv_tableIn (tgt := 209) hx hb dL_call_1 (by decide) (by decide) rfl (by decide) ?_
  refine lv_aload_n hx hb dL_call_209 rfl (lv_at hl 0 rfl) ?_
  refine lv_iload_n hx hb dL_call_210 rfl (lv_at hl 2 rfl) ?_
  refine lv_iload_n hx hb dL_call_211 rfl (lv_at hl 3 rfl) ?_
  refine hwSW (A0 := A) (As := [.ref (xa 0), .int a, .int b]) (rest := []) (W1 := wSp cy xa sa sb tr na ka z) (W2 := wSp cy xa sa sb tr na ka (callP z 14 a b c).2.2) (v := kV (callP z 14 a b c)) (c_L_tryBuy l hl0 D cy t xa sa sb tr na ka hz a b) hCF gw_L_tryBuy.more rfl hq_L_tryBuy ⟨Nat.le_of_ble_eq_true rfl, Nat.le_of_ble_eq_true rfl⟩ hG hF hP hD hS hA h_Sp rfl hl.1 rfl (Nat.le_of_ble_eq_true rfl) dL_call_212 ⟨Nat.le_of_ble_eq_true rfl, Nat.le_of_ble_eq_true rfl⟩ (fun H locs hP hD hS => ?_)
  exact hw_iret hx hb hr hlocks hP hS (Nat.le_refl _) (Nat.le_refl _) dL_call_215 rfl rfl
set_option maxRecDepth 20000 in
theorem c_L_call_15 (l : Launch) (hl0 : l.stackTraces = false) (D : va_G) (cy : Nat → ClassId) (t : FxA) (xa sa sb tr na : Nat → Nat) (ka : Nat → Nat → Nat) {z : SpT} (hz : OKz z) (a b c : Int32) : HW 9 1 6 240 l D cy t yL_call wc_call (wSp cy xa sa sb tr na ka z) (wSp cy xa sa sb tr na ka (callP z 15 a b c).2.2) [.ref (xa 0), .int (15 : Int32), .int a, .int b, .int c] (kV (callP z 15 a b c)) := by
  refine HW.body (by decide) rfl (Nat.le_of_ble_eq_true rfl) ?_
  intro p e s m below meth c9 hx hb hml hr hts hown hlocks hP hG ls hl A hD hA hS hF
  have hl : lv_has ls 5 [(0, .ref (xa 0)), (1, .int (15 : Int32)), (2, .int a), (3, .int b), (4, .int c)] := hl
  have hCF : CallFix p m c9 cL_call 5 s ([.ref (xa 0), .int (15 : Int32), .int a, .int b, .int c] : List Value).toArray wc_call RL := ⟨hx, hb, hml, hown, hts⟩
  refine lv_iload_n hx hb dL_call_0 rfl (lv_at hl 1 rfl) ?_
  refine lv_tableIn (tgt := 216) hx hb dL_call_1 (by decide) (by decide) rfl (by decide) ?_
  refine lv_aload_n hx hb dL_call_216 rfl (lv_at hl 0 rfl) ?_
  refine lv_iload_n hx hb dL_call_217 rfl (lv_at hl 2 rfl) ?_
  refine hwSW (A0 := A) (As := [.ref (xa 0), .int a]) (rest := []) (W1 := wSp cy xa sa sb tr na ka z) (W2 := wSp cy xa sa sb tr na ka (callP z 15 a b c).2.2) (v := kV (callP z 15 a b c)) (c_L_tryDays l hl0 D cy t xa sa sb tr na ka hz a) hCF gw_L_tryDays.more rfl hq_L_tryDays ⟨Nat.le_of_ble_eq_true rfl, Nat.le_of_ble_eq_true rfl⟩ hG hF hP hD hS hA h_Sp rfl hl.1 rfl (Nat.le_of_ble_eq_true rfl) dL_call_218 ⟨Nat.le_of_ble_eq_true rfl, Nat.le_of_ble_eq_true rfl⟩ (fun H locs hP hD hS => ?_)
  exact hw_iret hx hb hr hlocks hP hS (Nat.le_refl _) (Nat.le_refl _) dL_call_221 rfl rfl
set_option maxRecDepth 20000 in
theorem c_L_call_16 (l : Launch) (hl0 : l.stackTraces = false) (D : va_G) (cy : Nat → ClassId) (t : FxA) (xa sa sb tr na : Nat → Nat) (ka : Nat → Nat → Nat) {z : SpT} (hz : OKz z) (a b c : Int32) : HW 9 1 6 240 l D cy t yL_call wc_call (wSp cy xa sa sb tr na ka z) (wSp cy xa sa sb tr na ka (callP z 16 a b c).2.2) [.ref (xa 0), .int (16 : Int32), .int a, .int b, .int c] (kV (callP z 16 a b c)) := by
  refine HW.body (by decide) rfl (Nat.le_of_ble_eq_true rfl) ?_
  intro p e s m below meth c9 hx hb hml hr hts hown hlocks hP hG ls hl A hD hA hS hF
  have hl : lv_has ls 5 [(0, .ref (xa 0)), (1, .int (16 : Int32)), (2, .int a), (3, .int b), (4, .int c)] := hl
  have hCF : CallFix p m c9 cL_call 5 s ([.ref (xa 0), .int (16 : Int32), .int a, .int b, .int c] : List Value).toArray wc_call RL := ⟨hx, hb, hml, hown, hts⟩
  refine lv_iload_n hx hb dL_call_0 rfl (lv_at hl 1 rfl) ?_
  refine lv_tableIn (tgt := 222) hx hb dL_call_1 (by decide) (by decide) rfl (by decide) ?_
  refine lv_aload_n hx hb dL_call_222 rfl (lv_at hl 0 rfl) ?_
  refine lv_iload_n hx hb dL_call_223 rfl (lv_at hl 2 rfl) ?_
  refine lv_iload_n hx hb dL_call_224 rfl (lv_at hl 3 rfl) ?_
  refine hwSW (A0 := A) (As := [.ref (xa 0), .int a, .int b]) (rest := []) (W1 := wSp cy xa sa sb tr na ka z) (W2 := wSp cy xa sa sb tr na ka (callP z 16 a b c).2.2) (v := kV (callP z 16 a b c)) (c_L_trySet l hl0 D cy t xa sa sb tr na ka hz a b) hCF gw_L_trySet.more rfl hq_L_trySet ⟨Nat.le_of_ble_eq_true rfl, Nat.le_of_ble_eq_true rfl⟩ hG hF hP hD hS hA h_Sp rfl hl.1 rfl (Nat.le_of_ble_eq_true rfl) dL_call_225 ⟨Nat.le_of_ble_eq_true rfl, Nat.le_of_ble_eq_true rfl⟩ (fun H locs hP hD hS => ?_)
  exact hw_iret hx hb hr hlocks hP hS (Nat.le_refl _) (Nat.le_refl _) dL_call_228 rfl rfl
set_option maxRecDepth 20000 in
theorem c_L_call_17 (l : Launch) (hl0 : l.stackTraces = false) (D : va_G) (cy : Nat → ClassId) (t : FxA) (xa sa sb tr na : Nat → Nat) (ka : Nat → Nat → Nat) {z : SpT} (hz : OKz z) (a b c : Int32) : HW 9 1 6 240 l D cy t yL_call wc_call (wSp cy xa sa sb tr na ka z) (wSp cy xa sa sb tr na ka (callP z 17 a b c).2.2) [.ref (xa 0), .int (17 : Int32), .int a, .int b, .int c] (kV (callP z 17 a b c)) := by
  refine HW.body (by decide) rfl (Nat.le_of_ble_eq_true rfl) ?_
  intro p e s m below meth c9 hx hb hml hr hts hown hlocks hP hG ls hl A hD hA hS hF
  have hl : lv_has ls 5 [(0, .ref (xa 0)), (1, .int (17 : Int32)), (2, .int a), (3, .int b), (4, .int c)] := hl
  have hCF : CallFix p m c9 cL_call 5 s ([.ref (xa 0), .int (17 : Int32), .int a, .int b, .int c] : List Value).toArray wc_call RL := ⟨hx, hb, hml, hown, hts⟩
  refine lv_iload_n hx hb dL_call_0 rfl (lv_at hl 1 rfl) ?_
  refine lv_tableIn (tgt := 229) hx hb dL_call_1 (by decide) (by decide) rfl (by decide) ?_
  refine lv_aload_n hx hb dL_call_229 rfl (lv_at hl 0 rfl) ?_
  refine hwSW (A0 := A) (As := [.ref (xa 0)]) (rest := []) (W1 := wSp cy xa sa sb tr na ka z) (W2 := wSp cy xa sa sb tr na ka (callP z 17 a b c).2.2) (v := kV (callP z 17 a b c)) (c_L_tryUndo l hl0 D cy t xa sa sb tr na ka hz) hCF gw_L_tryUndo.more rfl hq_L_tryUndo ⟨Nat.le_of_ble_eq_true rfl, Nat.le_of_ble_eq_true rfl⟩ hG hF hP hD hS hA h_Sp rfl hl.1 rfl (Nat.le_of_ble_eq_true rfl) dL_call_230 ⟨Nat.le_of_ble_eq_true rfl, Nat.le_of_ble_eq_true rfl⟩ (fun H locs hP hD hS => ?_)
  exact hw_iret hx hb hr hlocks hP hS (Nat.le_refl _) (Nat.le_refl _) dL_call_233 rfl rfl
set_option maxRecDepth 20000 in
theorem c_L_call_18 (l : Launch) (hl0 : l.stackTraces = false) (D : va_G) (cy : Nat → ClassId) (t : FxA) (xa sa sb tr na : Nat → Nat) (ka : Nat → Nat → Nat) {z : SpT} (hz : OKz z) (a b c : Int32) : HW 9 1 6 240 l D cy t yL_call wc_call (wSp cy xa sa sb tr na ka z) (wSp cy xa sa sb tr na ka (callP z 18 a b c).2.2) [.ref (xa 0), .int (18 : Int32), .int a, .int b, .int c] (kV (callP z 18 a b c)) := by
  refine HW.body (by decide) rfl (Nat.le_of_ble_eq_true rfl) ?_
  intro p e s m below meth c9 hx hb hml hr hts hown hlocks hP hG ls hl A hD hA hS hF
  have hl : lv_has ls 5 [(0, .ref (xa 0)), (1, .int (18 : Int32)), (2, .int a), (3, .int b), (4, .int c)] := hl
  have hCF : CallFix p m c9 cL_call 5 s ([.ref (xa 0), .int (18 : Int32), .int a, .int b, .int c] : List Value).toArray wc_call RL := ⟨hx, hb, hml, hown, hts⟩
  refine lv_iload_n hx hb dL_call_0 rfl (lv_at hl 1 rfl) ?_
  refine lv_tableIn (tgt := 234) hx hb dL_call_1 (by decide) (by decide) rfl (by decide) ?_
  refine lv_aload_n hx hb dL_call_234 rfl (lv_at hl 0 rfl) ?_
  refine lv_iload_n hx hb dL_call_235 rfl (lv_at hl 2 rfl) ?_
  refine lv_iload_n hx hb dL_call_236 rfl (lv_at hl 3 rfl) ?_
  refine hwSW (A0 := A) (As := [.ref (xa 0), .int a, .int b]) (rest := []) (W1 := wSp cy xa sa sb tr na ka z) (W2 := wSp cy xa sa sb tr na ka (callP z 18 a b c).2.2) (v := kV (callP z 18 a b c)) (c_L_tryComplete l hl0 D cy t xa sa sb tr na ka hz a b) hCF gw_L_tryComplete.more rfl hq_L_tryComplete ⟨Nat.le_of_ble_eq_true rfl, Nat.le_of_ble_eq_true rfl⟩ hG hF hP hD hS hA h_Sp rfl hl.1 rfl (Nat.le_of_ble_eq_true rfl) dL_call_237 ⟨Nat.le_of_ble_eq_true rfl, Nat.le_of_ble_eq_true rfl⟩ (fun H locs hP hD hS => ?_)
  exact hw_iret hx hb hr hlocks hP hS (Nat.le_refl _) (Nat.le_refl _) dL_call_240 rfl rfl
set_option maxRecDepth 20000 in
theorem c_L_call_19 (l : Launch) (hl0 : l.stackTraces = false) (D : va_G) (cy : Nat → ClassId) (t : FxA) (xa sa sb tr na : Nat → Nat) (ka : Nat → Nat → Nat) {z : SpT} (hz : OKz z) (a b c : Int32) : HW 9 1 6 240 l D cy t yL_call wc_call (wSp cy xa sa sb tr na ka z) (wSp cy xa sa sb tr na ka (callP z 19 a b c).2.2) [.ref (xa 0), .int (19 : Int32), .int a, .int b, .int c] (kV (callP z 19 a b c)) := by
  refine HW.body (by decide) rfl (Nat.le_of_ble_eq_true rfl) ?_
  intro p e s m below meth c9 hx hb hml hr hts hown hlocks hP hG ls hl A hD hA hS hF
  have hl : lv_has ls 5 [(0, .ref (xa 0)), (1, .int (19 : Int32)), (2, .int a), (3, .int b), (4, .int c)] := hl
  have hCF : CallFix p m c9 cL_call 5 s ([.ref (xa 0), .int (19 : Int32), .int a, .int b, .int c] : List Value).toArray wc_call RL := ⟨hx, hb, hml, hown, hts⟩
  refine lv_iload_n hx hb dL_call_0 rfl (lv_at hl 1 rfl) ?_
  refine lv_tableIn (tgt := 241) hx hb dL_call_1 (by decide) (by decide) rfl (by decide) ?_
  refine lv_aload_n hx hb dL_call_241 rfl (lv_at hl 0 rfl) ?_
  refine lv_iload_n hx hb dL_call_242 rfl (lv_at hl 2 rfl) ?_
  refine lv_iload_n hx hb dL_call_243 rfl (lv_at hl 3 rfl) ?_
  refine hwSW (A0 := A) (As := [.ref (xa 0), .int a, .int b]) (rest := []) (W1 := wSp cy xa sa sb tr na ka z) (W2 := wSp cy xa sa sb tr na ka (callP z 19 a b c).2.2) (v := kV (callP z 19 a b c)) (c_L_tryTakings l hl0 D cy t xa sa sb tr na ka hz a b) hCF gw_L_tryTakings.more rfl hq_L_tryTakings ⟨Nat.le_of_ble_eq_true rfl, Nat.le_of_ble_eq_true rfl⟩ hG hF hP hD hS hA h_Sp rfl hl.1 rfl (Nat.le_of_ble_eq_true rfl) dL_call_244 ⟨Nat.le_of_ble_eq_true rfl, Nat.le_of_ble_eq_true rfl⟩ (fun H locs hP hD hS => ?_)
  exact hw_iret hx hb hr hlocks hP hS (Nat.le_refl _) (Nat.le_refl _) dL_call_247 rfl rfl
set_option maxRecDepth 20000 in
theorem c_L_call_20 (l : Launch) (hl0 : l.stackTraces = false) (D : va_G) (cy : Nat → ClassId) (t : FxA) (xa sa sb tr na : Nat → Nat) (ka : Nat → Nat → Nat) {z : SpT} (hz : OKz z) (a b c : Int32) : HW 9 1 6 240 l D cy t yL_call wc_call (wSp cy xa sa sb tr na ka z) (wSp cy xa sa sb tr na ka (callP z 20 a b c).2.2) [.ref (xa 0), .int (20 : Int32), .int a, .int b, .int c] (kV (callP z 20 a b c)) := by
  refine HW.body (by decide) rfl (Nat.le_of_ble_eq_true rfl) ?_
  intro p e s m below meth c9 hx hb hml hr hts hown hlocks hP hG ls hl A hD hA hS hF
  have hl : lv_has ls 5 [(0, .ref (xa 0)), (1, .int (20 : Int32)), (2, .int a), (3, .int b), (4, .int c)] := hl
  have hCF : CallFix p m c9 cL_call 5 s ([.ref (xa 0), .int (20 : Int32), .int a, .int b, .int c] : List Value).toArray wc_call RL := ⟨hx, hb, hml, hown, hts⟩
  refine lv_iload_n hx hb dL_call_0 rfl (lv_at hl 1 rfl) ?_
  refine lv_tableIn (tgt := 248) hx hb dL_call_1 (by decide) (by decide) rfl (by decide) ?_
  refine lv_aload_n hx hb dL_call_248 rfl (lv_at hl 0 rfl) ?_
  refine lv_iload_n hx hb dL_call_249 rfl (lv_at hl 2 rfl) ?_
  refine lv_iload_n hx hb dL_call_250 rfl (lv_at hl 3 rfl) ?_
  refine hwSW (A0 := A) (As := [.ref (xa 0), .int a, .int b]) (rest := []) (W1 := wSp cy xa sa sb tr na ka z) (W2 := wSp cy xa sa sb tr na ka (callP z 20 a b c).2.2) (v := kV (callP z 20 a b c)) (c_L_tryBill l hl0 D cy t xa sa sb tr na ka hz a b) hCF gw_L_tryBill.more rfl hq_L_tryBill ⟨Nat.le_of_ble_eq_true rfl, Nat.le_of_ble_eq_true rfl⟩ hG hF hP hD hS hA h_Sp rfl hl.1 rfl (Nat.le_of_ble_eq_true rfl) dL_call_251 ⟨Nat.le_of_ble_eq_true rfl, Nat.le_of_ble_eq_true rfl⟩ (fun H locs hP hD hS => ?_)
  exact hw_iret hx hb hr hlocks hP hS (Nat.le_refl _) (Nat.le_refl _) dL_call_254 rfl rfl
set_option maxRecDepth 20000 in
theorem c_L_call_21 (l : Launch) (hl0 : l.stackTraces = false) (D : va_G) (cy : Nat → ClassId) (t : FxA) (xa sa sb tr na : Nat → Nat) (ka : Nat → Nat → Nat) {z : SpT} (hz : OKz z) (a b c : Int32) : HW 9 1 6 240 l D cy t yL_call wc_call (wSp cy xa sa sb tr na ka z) (wSp cy xa sa sb tr na ka (callP z 21 a b c).2.2) [.ref (xa 0), .int (21 : Int32), .int a, .int b, .int c] (kV (callP z 21 a b c)) := by
  refine HW.body (by decide) rfl (Nat.le_of_ble_eq_true rfl) ?_
  intro p e s m below meth c9 hx hb hml hr hts hown hlocks hP hG ls hl A hD hA hS hF
  have hl : lv_has ls 5 [(0, .ref (xa 0)), (1, .int (21 : Int32)), (2, .int a), (3, .int b), (4, .int c)] := hl
  have hCF : CallFix p m c9 cL_call 5 s ([.ref (xa 0), .int (21 : Int32), .int a, .int b, .int c] : List Value).toArray wc_call RL := ⟨hx, hb, hml, hown, hts⟩
  refine lv_iload_n hx hb dL_call_0 rfl (lv_at hl 1 rfl) ?_
  refine lv_tableIn (tgt := 255) hx hb dL_call_1 (by decide) (by decide) rfl (by decide) ?_
  refine lv_aload_n hx hb dL_call_255 rfl (lv_at hl 0 rfl) ?_
  refine lv_iload_n hx hb dL_call_256 rfl (lv_at hl 2 rfl) ?_
  refine lv_iload_n hx hb dL_call_257 rfl (lv_at hl 3 rfl) ?_
  refine hwSW (A0 := A) (As := [.ref (xa 0), .int a, .int b]) (rest := []) (W1 := wSp cy xa sa sb tr na ka z) (W2 := wSp cy xa sa sb tr na ka (callP z 21 a b c).2.2) (v := kV (callP z 21 a b c)) (c_L_tryCheapest l hl0 D cy t xa sa sb tr na ka hz a b) hCF gw_L_tryCheapest.more rfl hq_L_tryCheapest ⟨Nat.le_of_ble_eq_true rfl, Nat.le_of_ble_eq_true rfl⟩ hG hF hP hD hS hA h_Sp rfl hl.1 rfl (Nat.le_of_ble_eq_true rfl) dL_call_258 ⟨Nat.le_of_ble_eq_true rfl, Nat.le_of_ble_eq_true rfl⟩ (fun H locs hP hD hS => ?_)
  exact hw_iret hx hb hr hlocks hP hS (Nat.le_refl _) (Nat.le_refl _) dL_call_261 rfl rfl
set_option maxRecDepth 20000 in
theorem c_L_call_22 (l : Launch) (hl0 : l.stackTraces = false) (D : va_G) (cy : Nat → ClassId) (t : FxA) (xa sa sb tr na : Nat → Nat) (ka : Nat → Nat → Nat) {z : SpT} (hz : OKz z) (a b c : Int32) : HW 9 1 6 240 l D cy t yL_call wc_call (wSp cy xa sa sb tr na ka z) (wSp cy xa sa sb tr na ka (callP z 22 a b c).2.2) [.ref (xa 0), .int (22 : Int32), .int a, .int b, .int c] (kV (callP z 22 a b c)) := by
  refine HW.body (by decide) rfl (Nat.le_of_ble_eq_true rfl) ?_
  intro p e s m below meth c9 hx hb hml hr hts hown hlocks hP hG ls hl A hD hA hS hF
  have hl : lv_has ls 5 [(0, .ref (xa 0)), (1, .int (22 : Int32)), (2, .int a), (3, .int b), (4, .int c)] := hl
  have hCF : CallFix p m c9 cL_call 5 s ([.ref (xa 0), .int (22 : Int32), .int a, .int b, .int c] : List Value).toArray wc_call RL := ⟨hx, hb, hml, hown, hts⟩
  refine lv_iload_n hx hb dL_call_0 rfl (lv_at hl 1 rfl) ?_
  refine lv_tableIn (tgt := 262) hx hb dL_call_1 (by decide) (by decide) rfl (by decide) ?_
  refine lv_aload_n hx hb dL_call_262 rfl (lv_at hl 0 rfl) ?_
  refine lv_iload_n hx hb dL_call_263 rfl (lv_at hl 2 rfl) ?_
  refine hwSW (A0 := A) (As := [.ref (xa 0), .int a]) (rest := []) (W1 := wSp cy xa sa sb tr na ka z) (W2 := wSp cy xa sa sb tr na ka (callP z 22 a b c).2.2) (v := kV (callP z 22 a b c)) (c_L_tryKeep l hl0 D cy t xa sa sb tr na ka hz a) hCF gw_L_tryKeep.more rfl hq_L_tryKeep ⟨Nat.le_of_ble_eq_true rfl, Nat.le_of_ble_eq_true rfl⟩ hG hF hP hD hS hA h_Sp rfl hl.1 rfl (Nat.le_of_ble_eq_true rfl) dL_call_264 ⟨Nat.le_of_ble_eq_true rfl, Nat.le_of_ble_eq_true rfl⟩ (fun H locs hP hD hS => ?_)
  exact hw_iret hx hb hr hlocks hP hS (Nat.le_refl _) (Nat.le_refl _) dL_call_267 rfl rfl
set_option maxRecDepth 20000 in
theorem c_L_call_23 (l : Launch) (hl0 : l.stackTraces = false) (D : va_G) (cy : Nat → ClassId) (t : FxA) (xa sa sb tr na : Nat → Nat) (ka : Nat → Nat → Nat) {z : SpT} (hz : OKz z) (a b c : Int32) : HW 9 1 6 240 l D cy t yL_call wc_call (wSp cy xa sa sb tr na ka z) (wSp cy xa sa sb tr na ka (callP z 23 a b c).2.2) [.ref (xa 0), .int (23 : Int32), .int a, .int b, .int c] (kV (callP z 23 a b c)) := by
  refine HW.body (by decide) rfl (Nat.le_of_ble_eq_true rfl) ?_
  intro p e s m below meth c9 hx hb hml hr hts hown hlocks hP hG ls hl A hD hA hS hF
  have hl : lv_has ls 5 [(0, .ref (xa 0)), (1, .int (23 : Int32)), (2, .int a), (3, .int b), (4, .int c)] := hl
  have hCF : CallFix p m c9 cL_call 5 s ([.ref (xa 0), .int (23 : Int32), .int a, .int b, .int c] : List Value).toArray wc_call RL := ⟨hx, hb, hml, hown, hts⟩
  refine lv_iload_n hx hb dL_call_0 rfl (lv_at hl 1 rfl) ?_
  refine lv_tableOut (tgt := 268) hx hb dL_call_1 (by decide) (by decide) ?_
  refine lv_aload_n hx hb dL_call_268 rfl (lv_at hl 0 rfl) ?_
  refine lv_iload_n hx hb dL_call_269 rfl (lv_at hl 2 rfl) ?_
  refine hwSW (A0 := A) (As := [.ref (xa 0), .int a]) (rest := []) (W1 := wSp cy xa sa sb tr na ka z) (W2 := wSp cy xa sa sb tr na ka (callP z 23 a b c).2.2) (v := kV (callP z 23 a b c)) (c_L_tryBack l hl0 D cy t xa sa sb tr na ka hz a) hCF gw_L_tryBack.more rfl hq_L_tryBack ⟨Nat.le_of_ble_eq_true rfl, Nat.le_of_ble_eq_true rfl⟩ hG hF hP hD hS hA h_Sp rfl hl.1 rfl (Nat.le_of_ble_eq_true rfl) dL_call_270 ⟨Nat.le_of_ble_eq_true rfl, Nat.le_of_ble_eq_true rfl⟩ (fun H locs hP hD hS => ?_)
  exact hw_iret hx hb hr hlocks hP hS (Nat.le_refl _) (Nat.le_refl _) dL_call_273 rfl rfl
