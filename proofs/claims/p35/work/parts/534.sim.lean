/-! turns of a simulation: class beside reference -/
def turnC (st : StT) (hw kk hh pp d9 d3 d5 p3 uu vv : Int32) : Int32 × StT := if hw = (0 : Int32) then m_X5_tryCome st kk hh pp else (if hw = (1 : Int32) then m_X5_tryCome st kk hh pp else (if hw = (2 : Int32) then m_X5_tryCome st kk hh pp else (if hw = (3 : Int32) then m_X5_tryLend st uu hh ((1 : Int32) + d9) else (if hw = (4 : Int32) then m_X5_tryLend st uu hh ((1 : Int32) + d9) else (if hw = (5 : Int32) then m_X5_tryBring st uu else (if hw = (6 : Int32) then m_X5_tryExchange st uu vv else (if hw = (7 : Int32) then m_X5_tryExchange st uu vv else (if hw = (8 : Int32) then m_X5_tryAdvance st hh vv ((1 : Int32) + d9) else (if hw = (9 : Int32) then m_X5_tryDeliver st uu else (if hw = (10 : Int32) then m_X5_tryTake st uu vv d3 else (if hw = (11 : Int32) then m_X5_tryTake st uu vv d3 else (if hw = (12 : Int32) then m_X5_tryTake st uu vv d3 else (if hw = (13 : Int32) then m_X5_tryBuy st uu d3 else (if hw = (14 : Int32) then m_X5_trySettle st hh d5 kk p3 else (m_X5_tryDays st ((1 : Int32) + d9))))))))))))))))
theorem turnC_eq (st : StT) (x1 : Int32) : m_X4_turn st x1 = turnC st (x1 - ((x1 / (16 : Int32)) * (16 : Int32))) ((x1 / (16 : Int32)) - (((x1 / (16 : Int32)) / (3 : Int32)) * (3 : Int32))) ((x1 / (4096 : Int32)) - (((x1 / (4096 : Int32)) / (5 : Int32)) * (5 : Int32))) ((x1 / (64 : Int32)) - (((x1 / (64 : Int32)) / (8 : Int32)) * (8 : Int32))) ((x1 / (32768 : Int32)) - (((x1 / (32768 : Int32)) / (9 : Int32)) * (9 : Int32))) ((x1 / (32768 : Int32)) - (((x1 / (32768 : Int32)) / (3 : Int32)) * (3 : Int32))) ((x1 / (32768 : Int32)) - (((x1 / (32768 : Int32)) / (5 : Int32)) * (5 : Int32))) ((x1 / (64 : Int32)) - (((x1 / (64 : Int32)) / (3 : Int32)) * (3 : Int32))) ((x1 / (16 : Int32)) - (((x1 / (16 : Int32)) / (if (1 : Int32) < (uN (sU st)) then uN (sU st) else (1 : Int32))) * (if (1 : Int32) < (uN (sU st)) then uN (sU st) else (1 : Int32)))) ((x1 / (256 : Int32)) - (((x1 / (256 : Int32)) / (if (1 : Int32) < (uN (sU st)) then uN (sU st) else (1 : Int32))) * (if (1 : Int32) < (uN (sU st)) then uN (sU st) else (1 : Int32)))) := by
  unfold m_X4_turn turnC
  generalize ((x1 / (256 : Int32)) - (((x1 / (256 : Int32)) / (if (1 : Int32) < (uN (sU st)) then uN (sU st) else (1 : Int32))) * (if (1 : Int32) < (uN (sU st)) then uN (sU st) else (1 : Int32)))) = vv
  generalize ((x1 / (16 : Int32)) - (((x1 / (16 : Int32)) / (if (1 : Int32) < (uN (sU st)) then uN (sU st) else (1 : Int32))) * (if (1 : Int32) < (uN (sU st)) then uN (sU st) else (1 : Int32)))) = uu
  generalize ((x1 / (32768 : Int32)) - (((x1 / (32768 : Int32)) / (9 : Int32)) * (9 : Int32))) = d9
  generalize ((x1 / (32768 : Int32)) - (((x1 / (32768 : Int32)) / (3 : Int32)) * (3 : Int32))) = d3
  generalize ((x1 / (32768 : Int32)) - (((x1 / (32768 : Int32)) / (5 : Int32)) * (5 : Int32))) = d5
  generalize ((x1 / (4096 : Int32)) - (((x1 / (4096 : Int32)) / (5 : Int32)) * (5 : Int32))) = hh
  generalize ((x1 / (16 : Int32)) - (((x1 / (16 : Int32)) / (3 : Int32)) * (3 : Int32))) = kk
  generalize ((x1 / (64 : Int32)) - (((x1 / (64 : Int32)) / (8 : Int32)) * (8 : Int32))) = pp
  generalize ((x1 / (64 : Int32)) - (((x1 / (64 : Int32)) / (3 : Int32)) * (3 : Int32))) = p3
  generalize (x1 - ((x1 / (16 : Int32)) * (16 : Int32))) = hw
  rfl
def turnF (mo : MoT) (hw kk hh pp d9 d3 d5 p3 uu vv : Int32) : MoT := if (3 : Int32) ≤ hw then if (5 : Int32) ≤ hw then if hw = (5 : Int32) then mW' mo (m_X9_does (mW mo) (114 : Int32) uu (0 : Int32) (0 : Int32)).2 else if (8 : Int32) ≤ hw then if hw = (8 : Int32) then mW' mo (m_X9_does (mW mo) (97 : Int32) hh vv ((1 : Int32) + d9)).2 else if hw = (9 : Int32) then mW' mo (m_X9_does (mW mo) (118 : Int32) uu (0 : Int32) (0 : Int32)).2 else if (13 : Int32) ≤ hw then if hw = (13 : Int32) then mW' mo (m_X9_does (mW mo) (98 : Int32) uu d3 (0 : Int32)).2 else if hw = (15 : Int32) then mW' mo (m_X9_does (mW mo) (100 : Int32) ((1 : Int32) + d9) (0 : Int32) (0 : Int32)).2 else if (m_X9_whyNotSettle (mW mo) hh d5 kk p3) = (0 : Int32) then mW' mo (m_X9_settleOn (mW mo) hh d5 kk p3).2 else mo else mW' mo (m_X9_does (mW mo) (116 : Int32) uu vv d3).2 else mW' mo (m_X9_does (mW mo) (120 : Int32) uu vv (0 : Int32)).2 else mW' mo (m_X9_does (mW mo) (108 : Int32) uu hh ((1 : Int32) + d9)).2 else mW' mo (m_X9_does (mW mo) (110 : Int32) kk hh pp).2
theorem turnF_eq (mo : MoT) (x1 : Int32) : m_X9_turn mo x1 = if (mW mo) (1 : Int32).toNatClampNeg = 0 then turnF mo (x1 - ((x1 / (16 : Int32)) * (16 : Int32))) ((x1 / (16 : Int32)) - (((x1 / (16 : Int32)) / (3 : Int32)) * (3 : Int32))) ((x1 / (4096 : Int32)) - (((x1 / (4096 : Int32)) / (5 : Int32)) * (5 : Int32))) ((x1 / (64 : Int32)) - (((x1 / (64 : Int32)) / (8 : Int32)) * (8 : Int32))) ((x1 / (32768 : Int32)) - (((x1 / (32768 : Int32)) / (9 : Int32)) * (9 : Int32))) ((x1 / (32768 : Int32)) - (((x1 / (32768 : Int32)) / (3 : Int32)) * (3 : Int32))) ((x1 / (32768 : Int32)) - (((x1 / (32768 : Int32)) / (5 : Int32)) * (5 : Int32))) ((x1 / (64 : Int32)) - (((x1 / (64 : Int32)) / (3 : Int32)) * (3 : Int32))) ((x1 / (16 : Int32)) - (((x1 / (16 : Int32)) / (1 : Int32)) * (1 : Int32))) ((x1 / (256 : Int32)) - (((x1 / (256 : Int32)) / (1 : Int32)) * (1 : Int32))) else turnF mo (x1 - ((x1 / (16 : Int32)) * (16 : Int32))) ((x1 / (16 : Int32)) - (((x1 / (16 : Int32)) / (3 : Int32)) * (3 : Int32))) ((x1 / (4096 : Int32)) - (((x1 / (4096 : Int32)) / (5 : Int32)) * (5 : Int32))) ((x1 / (64 : Int32)) - (((x1 / (64 : Int32)) / (8 : Int32)) * (8 : Int32))) ((x1 / (32768 : Int32)) - (((x1 / (32768 : Int32)) / (9 : Int32)) * (9 : Int32))) ((x1 / (32768 : Int32)) - (((x1 / (32768 : Int32)) / (3 : Int32)) * (3 : Int32))) ((x1 / (32768 : Int32)) - (((x1 / (32768 : Int32)) / (5 : Int32)) * (5 : Int32))) ((x1 / (64 : Int32)) - (((x1 / (64 : Int32)) / (3 : Int32)) * (3 : Int32))) ((x1 / (16 : Int32)) - (((x1 / (16 : Int32)) / ((mW mo) (1 : Int32).toNatClampNeg)) * ((mW mo) (1 : Int32).toNatClampNeg))) ((x1 / (256 : Int32)) - (((x1 / (256 : Int32)) / ((mW mo) (1 : Int32).toNatClampNeg)) * ((mW mo) (1 : Int32).toNatClampNeg))) := by
  unfold m_X9_turn
  by_cases c : (mW mo) (1 : Int32).toNatClampNeg = 0
  · rw [if_pos c, if_pos c]; rfl
  · rw [if_neg c, if_neg c]; rfl
theorem dos_st {T : Int} {st : StT} {r : Nat → Int32} {t : Int32 × StT} {d : Int32 × (Nat → Int32)} (h : Dos T st r t d) (hR : RS st r) (hB : BD T r) : RS t.2 d.2 ∧ BD (T + 99) d.2 := by
  rcases h with ⟨h1, h2, h3⟩ | ⟨h1, h2, h3, h4⟩
  · rw [h1, h3]; exact ⟨hR, BD_up hB (by omega)⟩
  · exact ⟨h3, h4⟩
/-- a turn done by both -/
def Trn (T : Int) (mo : MoT) (c : Int32 × StT) (m : MoT) : Prop := ∃ W, m = mW' mo W ∧ RS c.2 W ∧ rOK W ∧ BD (T + 99) W
theorem trn_dos {T : Int} {st : StT} {mo : MoT} {t : Int32 × StT} {d : Int32 × (Nat → Int32)} (h : Dos T st (mW mo) t d) (hR : RS st (mW mo)) (hB : BD T (mW mo)) (hr : rOK d.2) : Trn T mo t (mW' mo d.2) := ⟨d.2, rfl, (dos_st h hR hB).1, hr, (dos_st h hR hB).2⟩
theorem trn_eq {T : Int} {st : StT} {mo : MoT} {hw kk hh pp d9 d3 d5 p3 uu vv : Int32} (hR : RS st (mW mo)) (hr : rOK (mW mo)) (hB : BD T (mW mo)) (hT : T ≤ 10000000) (h0 : 0 ≤ hw.toInt) (h1 : hw.toInt < 16) : Trn T mo (turnC st hw kk hh pp d9 d3 d5 p3 uu vv) (turnF mo hw kk hh pp d9 d3 d5 p3 uu vv) := by
  have e : hw.toInt = 0 ∨ hw.toInt = 1 ∨ hw.toInt = 2 ∨ hw.toInt = 3 ∨ hw.toInt = 4 ∨ hw.toInt = 5 ∨ hw.toInt = 6 ∨ hw.toInt = 7 ∨ hw.toInt = 8 ∨ hw.toInt = 9 ∨ hw.toInt = 10 ∨ hw.toInt = 11 ∨ hw.toInt = 12 ∨ hw.toInt = 13 ∨ hw.toInt = 14 ∨ hw.toInt = 15 := by omega
  rcases e with e | e | e | e | e | e | e | e | e | e | e | e | e | e | e | e
  · obtain rfl : hw = 0 := i32_eq (by rw [e]; decide)
    unfold turnC turnF
    rw [if_pos (show (0 : Int32) = 0 from rfl)]
    rw [if_neg (show ¬ (3 : Int32) ≤ 0 by decide)]
    exact trn_dos (d_come hR hr hB) hR hB (rok_does hr)
  · obtain rfl : hw = 1 := i32_eq (by rw [e]; decide)
    unfold turnC turnF
    rw [if_neg (show ¬ (1 : Int32) = 0 by decide), if_pos (show (1 : Int32) = 1 from rfl)]
    rw [if_neg (show ¬ (3 : Int32) ≤ 1 by decide)]
    exact trn_dos (d_come hR hr hB) hR hB (rok_does hr)
  · obtain rfl : hw = 2 := i32_eq (by rw [e]; decide)
    unfold turnC turnF
    rw [if_neg (show ¬ (2 : Int32) = 0 by decide), if_neg (show ¬ (2 : Int32) = 1 by decide), if_pos (show (2 : Int32) = 2 from rfl)]
    rw [if_neg (show ¬ (3 : Int32) ≤ 2 by decide)]
    exact trn_dos (d_come hR hr hB) hR hB (rok_does hr)
  · obtain rfl : hw = 3 := i32_eq (by rw [e]; decide)
    unfold turnC turnF
    rw [if_neg (show ¬ (3 : Int32) = 0 by decide), if_neg (show ¬ (3 : Int32) = 1 by decide), if_neg (show ¬ (3 : Int32) = 2 by decide), if_pos (show (3 : Int32) = 3 from rfl)]
    rw [if_pos (show (3 : Int32) ≤ 3 by decide), if_neg (show ¬ (5 : Int32) ≤ 3 by decide)]
    exact trn_dos (d_lend hR hr hB hT) hR hB (rok_does hr)
  · obtain rfl : hw = 4 := i32_eq (by rw [e]; decide)
    unfold turnC turnF
    rw [if_neg (show ¬ (4 : Int32) = 0 by decide), if_neg (show ¬ (4 : Int32) = 1 by decide), if_neg (show ¬ (4 : Int32) = 2 by decide), if_neg (show ¬ (4 : Int32) = 3 by decide), if_pos (show (4 : Int32) = 4 from rfl)]
    rw [if_pos (show (3 : Int32) ≤ 4 by decide), if_neg (show ¬ (5 : Int32) ≤ 4 by decide)]
    exact trn_dos (d_lend hR hr hB hT) hR hB (rok_does hr)
  · obtain rfl : hw = 5 := i32_eq (by rw [e]; decide)
    unfold turnC turnF
    rw [if_neg (show ¬ (5 : Int32) = 0 by decide), if_neg (show ¬ (5 : Int32) = 1 by decide), if_neg (show ¬ (5 : Int32) = 2 by decide), if_neg (show ¬ (5 : Int32) = 3 by decide), if_neg (show ¬ (5 : Int32) = 4 by decide), if_pos (show (5 : Int32) = 5 from rfl)]
    rw [if_pos (show (3 : Int32) ≤ 5 by decide), if_pos (show (5 : Int32) ≤ 5 by decide), if_pos (show (5 : Int32) = 5 from rfl)]
    exact trn_dos (d_bring hR hr hB hT) hR hB (rok_does hr)
  · obtain rfl : hw = 6 := i32_eq (by rw [e]; decide)
    unfold turnC turnF
    rw [if_neg (show ¬ (6 : Int32) = 0 by decide), if_neg (show ¬ (6 : Int32) = 1 by decide), if_neg (show ¬ (6 : Int32) = 2 by decide), if_neg (show ¬ (6 : Int32) = 3 by decide), if_neg (show ¬ (6 : Int32) = 4 by decide), if_neg (show ¬ (6 : Int32) = 5 by decide), if_pos (show (6 : Int32) = 6 from rfl)]
    rw [if_pos (show (3 : Int32) ≤ 6 by decide), if_pos (show (5 : Int32) ≤ 6 by decide), if_neg (show ¬ (6 : Int32) = 5 by decide), if_neg (show ¬ (8 : Int32) ≤ 6 by decide)]
    exact trn_dos (d_exchange hR hr hB) hR hB (rok_does hr)
  · obtain rfl : hw = 7 := i32_eq (by rw [e]; decide)
    unfold turnC turnF
    rw [if_neg (show ¬ (7 : Int32) = 0 by decide), if_neg (show ¬ (7 : Int32) = 1 by decide), if_neg (show ¬ (7 : Int32) = 2 by decide), if_neg (show ¬ (7 : Int32) = 3 by decide), if_neg (show ¬ (7 : Int32) = 4 by decide), if_neg (show ¬ (7 : Int32) = 5 by decide), if_neg (show ¬ (7 : Int32) = 6 by decide), if_pos (show (7 : Int32) = 7 from rfl)]
    rw [if_pos (show (3 : Int32) ≤ 7 by decide), if_pos (show (5 : Int32) ≤ 7 by decide), if_neg (show ¬ (7 : Int32) = 5 by decide), if_neg (show ¬ (8 : Int32) ≤ 7 by decide)]
    exact trn_dos (d_exchange hR hr hB) hR hB (rok_does hr)
  · obtain rfl : hw = 8 := i32_eq (by rw [e]; decide)
    unfold turnC turnF
    rw [if_neg (show ¬ (8 : Int32) = 0 by decide), if_neg (show ¬ (8 : Int32) = 1 by decide), if_neg (show ¬ (8 : Int32) = 2 by decide), if_neg (show ¬ (8 : Int32) = 3 by decide), if_neg (show ¬ (8 : Int32) = 4 by decide), if_neg (show ¬ (8 : Int32) = 5 by decide), if_neg (show ¬ (8 : Int32) = 6 by decide), if_neg (show ¬ (8 : Int32) = 7 by decide), if_pos (show (8 : Int32) = 8 from rfl)]
    rw [if_pos (show (3 : Int32) ≤ 8 by decide), if_pos (show (5 : Int32) ≤ 8 by decide), if_neg (show ¬ (8 : Int32) = 5 by decide), if_pos (show (8 : Int32) ≤ 8 by decide), if_pos (show (8 : Int32) = 8 from rfl)]
    exact trn_dos (d_advance hR hr hB hT) hR hB (rok_does hr)
  · obtain rfl : hw = 9 := i32_eq (by rw [e]; decide)
    unfold turnC turnF
    rw [if_neg (show ¬ (9 : Int32) = 0 by decide), if_neg (show ¬ (9 : Int32) = 1 by decide), if_neg (show ¬ (9 : Int32) = 2 by decide), if_neg (show ¬ (9 : Int32) = 3 by decide), if_neg (show ¬ (9 : Int32) = 4 by decide), if_neg (show ¬ (9 : Int32) = 5 by decide), if_neg (show ¬ (9 : Int32) = 6 by decide), if_neg (show ¬ (9 : Int32) = 7 by decide), if_neg (show ¬ (9 : Int32) = 8 by decide), if_pos (show (9 : Int32) = 9 from rfl)]
    rw [if_pos (show (3 : Int32) ≤ 9 by decide), if_pos (show (5 : Int32) ≤ 9 by decide), if_neg (show ¬ (9 : Int32) = 5 by decide), if_pos (show (8 : Int32) ≤ 9 by decide), if_neg (show ¬ (9 : Int32) = 8 by decide), if_pos (show (9 : Int32) = 9 from rfl)]
    exact trn_dos (d_deliver hR hr hB hT) hR hB (rok_does hr)
  · obtain rfl : hw = 10 := i32_eq (by rw [e]; decide)
    unfold turnC turnF
    rw [if_neg (show ¬ (10 : Int32) = 0 by decide), if_neg (show ¬ (10 : Int32) = 1 by decide), if_neg (show ¬ (10 : Int32) = 2 by decide), if_neg (show ¬ (10 : Int32) = 3 by decide), if_neg (show ¬ (10 : Int32) = 4 by decide), if_neg (show ¬ (10 : Int32) = 5 by decide), if_neg (show ¬ (10 : Int32) = 6 by decide), if_neg (show ¬ (10 : Int32) = 7 by decide), if_neg (show ¬ (10 : Int32) = 8 by decide), if_neg (show ¬ (10 : Int32) = 9 by decide), if_pos (show (10 : Int32) = 10 from rfl)]
    rw [if_pos (show (3 : Int32) ≤ 10 by decide), if_pos (show (5 : Int32) ≤ 10 by decide), if_neg (show ¬ (10 : Int32) = 5 by decide), if_pos (show (8 : Int32) ≤ 10 by decide), if_neg (show ¬ (10 : Int32) = 8 by decide), if_neg (show ¬ (10 : Int32) = 9 by decide), if_neg (show ¬ (13 : Int32) ≤ 10 by decide)]
    exact trn_dos (d_take hR hr hB hT) hR hB (rok_does hr)
  · obtain rfl : hw = 11 := i32_eq (by rw [e]; decide)
    unfold turnC turnF
    rw [if_neg (show ¬ (11 : Int32) = 0 by decide), if_neg (show ¬ (11 : Int32) = 1 by decide), if_neg (show ¬ (11 : Int32) = 2 by decide), if_neg (show ¬ (11 : Int32) = 3 by decide), if_neg (show ¬ (11 : Int32) = 4 by decide), if_neg (show ¬ (11 : Int32) = 5 by decide), if_neg (show ¬ (11 : Int32) = 6 by decide), if_neg (show ¬ (11 : Int32) = 7 by decide), if_neg (show ¬ (11 : Int32) = 8 by decide), if_neg (show ¬ (11 : Int32) = 9 by decide), if_neg (show ¬ (11 : Int32) = 10 by decide), if_pos (show (11 : Int32) = 11 from rfl)]
    rw [if_pos (show (3 : Int32) ≤ 11 by decide), if_pos (show (5 : Int32) ≤ 11 by decide), if_neg (show ¬ (11 : Int32) = 5 by decide), if_pos (show (8 : Int32) ≤ 11 by decide), if_neg (show ¬ (11 : Int32) = 8 by decide), if_neg (show ¬ (11 : Int32) = 9 by decide), if_neg (show ¬ (13 : Int32) ≤ 11 by decide)]
    exact trn_dos (d_take hR hr hB hT) hR hB (rok_does hr)
  · obtain rfl : hw = 12 := i32_eq (by rw [e]; decide)
    unfold turnC turnF
    rw [if_neg (show ¬ (12 : Int32) = 0 by decide), if_neg (show ¬ (12 : Int32) = 1 by decide), if_neg (show ¬ (12 : Int32) = 2 by decide), if_neg (show ¬ (12 : Int32) = 3 by decide), if_neg (show ¬ (12 : Int32) = 4 by decide), if_neg (show ¬ (12 : Int32) = 5 by decide), if_neg (show ¬ (12 : Int32) = 6 by decide), if_neg (show ¬ (12 : Int32) = 7 by decide), if_neg (show ¬ (12 : Int32) = 8 by decide), if_neg (show ¬ (12 : Int32) = 9 by decide), if_neg (show ¬ (12 : Int32) = 10 by decide), if_neg (show ¬ (12 : Int32) = 11 by decide), if_pos (show (12 : Int32) = 12 from rfl)]
    rw [if_pos (show (3 : Int32) ≤ 12 by decide), if_pos (show (5 : Int32) ≤ 12 by decide), if_neg (show ¬ (12 : Int32) = 5 by decide), if_pos (show (8 : Int32) ≤ 12 by decide), if_neg (show ¬ (12 : Int32) = 8 by decide), if_neg (show ¬ (12 : Int32) = 9 by decide), if_neg (show ¬ (13 : Int32) ≤ 12 by decide)]
    exact trn_dos (d_take hR hr hB hT) hR hB (rok_does hr)
  · obtain rfl : hw = 13 := i32_eq (by rw [e]; decide)
    unfold turnC turnF
    rw [if_neg (show ¬ (13 : Int32) = 0 by decide), if_neg (show ¬ (13 : Int32) = 1 by decide), if_neg (show ¬ (13 : Int32) = 2 by decide), if_neg (show ¬ (13 : Int32) = 3 by decide), if_neg (show ¬ (13 : Int32) = 4 by decide), if_neg (show ¬ (13 : Int32) = 5 by decide), if_neg (show ¬ (13 : Int32) = 6 by decide), if_neg (show ¬ (13 : Int32) = 7 by decide), if_neg (show ¬ (13 : Int32) = 8 by decide), if_neg (show ¬ (13 : Int32) = 9 by decide), if_neg (show ¬ (13 : Int32) = 10 by decide), if_neg (show ¬ (13 : Int32) = 11 by decide), if_neg (show ¬ (13 : Int32) = 12 by decide), if_pos (show (13 : Int32) = 13 from rfl)]
    rw [if_pos (show (3 : Int32) ≤ 13 by decide), if_pos (show (5 : Int32) ≤ 13 by decide), if_neg (show ¬ (13 : Int32) = 5 by decide), if_pos (show (8 : Int32) ≤ 13 by decide), if_neg (show ¬ (13 : Int32) = 8 by decide), if_neg (show ¬ (13 : Int32) = 9 by decide), if_pos (show (13 : Int32) ≤ 13 by decide), if_pos (show (13 : Int32) = 13 from rfl)]
    exact trn_dos (d_buy hR hr hB) hR hB (rok_does hr)
  · obtain rfl : hw = 14 := i32_eq (by rw [e]; decide)
    unfold turnC turnF
    rw [if_neg (show ¬ (14 : Int32) = 0 by decide), if_neg (show ¬ (14 : Int32) = 1 by decide), if_neg (show ¬ (14 : Int32) = 2 by decide), if_neg (show ¬ (14 : Int32) = 3 by decide), if_neg (show ¬ (14 : Int32) = 4 by decide), if_neg (show ¬ (14 : Int32) = 5 by decide), if_neg (show ¬ (14 : Int32) = 6 by decide), if_neg (show ¬ (14 : Int32) = 7 by decide), if_neg (show ¬ (14 : Int32) = 8 by decide), if_neg (show ¬ (14 : Int32) = 9 by decide), if_neg (show ¬ (14 : Int32) = 10 by decide), if_neg (show ¬ (14 : Int32) = 11 by decide), if_neg (show ¬ (14 : Int32) = 12 by decide), if_neg (show ¬ (14 : Int32) = 13 by decide), if_pos (show (14 : Int32) = 14 from rfl)]
    rw [if_pos (show (3 : Int32) ≤ 14 by decide), if_pos (show (5 : Int32) ≤ 14 by decide), if_neg (show ¬ (14 : Int32) = 5 by decide), if_pos (show (8 : Int32) ≤ 14 by decide), if_neg (show ¬ (14 : Int32) = 8 by decide), if_neg (show ¬ (14 : Int32) = 9 by decide), if_pos (show (13 : Int32) ≤ 14 by decide), if_neg (show ¬ (14 : Int32) = 13 by decide), if_neg (show ¬ (14 : Int32) = 15 by decide)]
    rcases d_settle (a := hh) (b := d5) (c := kk) (d := p3) hR hr hB hT with ⟨s1, s2, s3⟩ | ⟨s1, s2⟩
    · rw [if_pos s1]
      exact ⟨_, rfl, s2, rok_settle hr s1, s3⟩
    · rw [if_neg s1]
      exact ⟨mW mo, rfl, by rw [s2]; exact hR, hr, BD_up hB (by omega)⟩
  · obtain rfl : hw = 15 := i32_eq (by rw [e]; decide)
    unfold turnC turnF
    rw [if_neg (show ¬ (15 : Int32) = 0 by decide), if_neg (show ¬ (15 : Int32) = 1 by decide), if_neg (show ¬ (15 : Int32) = 2 by decide), if_neg (show ¬ (15 : Int32) = 3 by decide), if_neg (show ¬ (15 : Int32) = 4 by decide), if_neg (show ¬ (15 : Int32) = 5 by decide), if_neg (show ¬ (15 : Int32) = 6 by decide), if_neg (show ¬ (15 : Int32) = 7 by decide), if_neg (show ¬ (15 : Int32) = 8 by decide), if_neg (show ¬ (15 : Int32) = 9 by decide), if_neg (show ¬ (15 : Int32) = 10 by decide), if_neg (show ¬ (15 : Int32) = 11 by decide), if_neg (show ¬ (15 : Int32) = 12 by decide), if_neg (show ¬ (15 : Int32) = 13 by decide), if_neg (show ¬ (15 : Int32) = 14 by decide)]
    rw [if_pos (show (3 : Int32) ≤ 15 by decide), if_pos (show (5 : Int32) ≤ 15 by decide), if_neg (show ¬ (15 : Int32) = 5 by decide), if_pos (show (8 : Int32) ≤ 15 by decide), if_neg (show ¬ (15 : Int32) = 8 by decide), if_neg (show ¬ (15 : Int32) = 9 by decide), if_pos (show (13 : Int32) ≤ 15 by decide), if_neg (show ¬ (15 : Int32) = 13 by decide), if_pos (show (15 : Int32) = 15 from rfl)]
    exact trn_dos (d_days hR hr hB hT) hR hB (rok_does hr)
theorem turn_eq {T : Int} {st : StT} {mo : MoT} {x : Int32} (hR : RS st (mW mo)) (hr : rOK (mW mo)) (hB : BD T (mW mo)) (hT : T ≤ 10000000) (h0 : 0 ≤ x.toInt) : Trn T mo (m_X4_turn st x) (m_X9_turn mo x) := by
  have ok := hR.ok hr
  have hw := i32_mod (c := 16) (C := 16) h0 (by decide) (by decide)
  rw [turnC_eq, turnF_eq, kn1, hR.1.1]
  by_cases c : uN (sU st) = 0
  · rw [if_pos c, if_neg (show ¬ (1 : Int32) < uN (sU st) by rw [c]; decide)]
    exact trn_eq hR hr hB hT (by omega) (by omega)
  · rw [if_neg c]
    by_cases q : (1 : Int32) < uN (sU st)
    · rw [if_pos q]
      exact trn_eq hR hr hB hT (by omega) (by omega)
    · have e1 : uN (sU st) = 1 := i32_eq (by
        rw [i32_lt, i32_1] at q
        have a := ok.1.1
        have b : ¬ (uN (sU st)).toInt = 0 := fun e => c (i32_eq (by rw [e]; decide))
        rw [i32_1]; omega)
      rw [if_neg q, e1]
      exact trn_eq hR hr hB hT (by omega) (by omega)
/-- a number of 31 bits -/
theorem sh33 (x : Int64) : 0 ≤ ((x.toUInt64 >>> ((33 : Int32).toInt64.toUInt64 &&& Int64.toUInt64 63)).toInt64.toInt32).toInt := by
  have e : ((33 : Int32).toInt64.toUInt64 &&& Int64.toUInt64 63) = 33 := by decide
  rw [e]
  generalize hu : x.toUInt64 >>> 33 = u
  have h1 : u.toNat < 2147483648 := by
    rw [← hu, UInt64.toNat_shiftRight]
    have := x.toUInt64.toNat_lt
    rw [show (33 : UInt64).toNat % 64 = 33 by decide, Nat.shiftRight_eq_div_pow]
    omega
  have h2 : u.toInt64.toInt = u.toNat := by
    show u.toBitVec.toInt = _
    rw [BitVec.toInt_eq_toNat_bmod]
    show ((u.toNat : Int)).bmod 18446744073709551616 = _
    exact bmod64 (by omega) (by omega)
  rw [Int64.toInt_toInt32, h2]
  rw [show (2 : Nat) ^ 32 = 4294967296 from rfl, bmod_of (by omega) (by omega)]
  omega
def SimP (x1 : Int64) (x2 : Int32) (nF : Nat) (z : SpT) (mo : MoT) (xx : Int64) (k : Int32) : Prop := (m_X8_simulate_L36 nF z x1 x2 xx k).1 = 0 ∧ (m_X8_simulate_L36 nF z x1 x2 xx k).2.1 = (m_X9_simulate_L45 nF mo x1 x2 xx k).1 ∧ (∃ st, (m_X8_simulate_L36 nF z x1 x2 xx k).2.2 = pR' z st) ∧ ∃ W, (m_X9_simulate_L45 nF mo x1 x2 xx k).2 = mW' mo W
theorem sim_fin {x1 : Int64} {x2 : Int32} {nF : Nat} {z : SpT} {mo M : MoT} {T : Int} {y : Int64} {k : Int32} {C : Int32 × StT} (S : Trn T mo C M) (ih : ∀ (z9 : SpT) (W : Nat → Int32), RS (pR z9) W → rOK W → BD (T + 99) W → SimP x1 x2 nF z9 (mW' mo W) y k) :
    (m_X8_simulate_L36 nF (pR' z C.2) x1 x2 y k).1 = 0 ∧ (m_X8_simulate_L36 nF (pR' z C.2) x1 x2 y k).2.1 = (m_X9_simulate_L45 nF M x1 x2 y k).1 ∧ (∃ st, (m_X8_simulate_L36 nF (pR' z C.2) x1 x2 y k).2.2 = pR' z st) ∧ ∃ W, (m_X9_simulate_L45 nF M x1 x2 y k).2 = mW' mo W := by
  obtain ⟨W, s3, s4, s5, s6⟩ := S
  rw [s3]
  obtain ⟨k1, k2, ⟨st, k3⟩, W2, k4⟩ := ih (pR' z C.2) W s4 s5 s6
  exact ⟨k1, k2, ⟨st, k3⟩, W2, k4⟩
theorem sim_L {x1 : Int64} {x2 : Int32} : ∀ (m nF : Nat) (z : SpT) (mo : MoT) (T : Int) (xx : Int64) (k : Int32), m < nF → x2.toInt = k.toInt + m → 0 ≤ k.toInt → x2.toInt ≤ 99 → RS (pR z) (mW mo) → rOK (mW mo) → BD T (mW mo) → T + 99 * m ≤ 10000000 →
    (m_X8_simulate_L36 nF z x1 x2 xx k).1 = 0 ∧ (m_X8_simulate_L36 nF z x1 x2 xx k).2.1 = (m_X9_simulate_L45 nF mo x1 x2 xx k).1 ∧ (∃ st, (m_X8_simulate_L36 nF z x1 x2 xx k).2.2 = pR' z st) ∧ ∃ W, (m_X9_simulate_L45 nF mo x1 x2 xx k).2 = mW' mo W := by
  intro m
  induction m with
  | zero =>
    intro nF z mo T xx k h2 h3 h4 h5 hR hr hB hT
    obtain ⟨nF, rfl⟩ : ∃ q, nF = q + 1 := ⟨nF - 1, by omega⟩
    have c : x2 ≤ k := by rw [i32_le]; omega
    rw [m_X8_simulate_L36, m_X9_simulate_L45, if_pos c, if_pos c, usable_eq hR hr, cores_eq hR, parts_all hR]
    exact ⟨rfl, rfl, ⟨pR z, rfl⟩, mW mo, rfl⟩
  | succ m ih =>
    intro nF z mo T xx k h2 h3 h4 h5 hR hr hB hT
    obtain ⟨nF, rfl⟩ : ∃ q, nF = q + 1 := ⟨nF - 1, by omega⟩
    have c : ¬ x2 ≤ k := by rw [i32_le]; omega
    have sp : (k + 1).toInt = k.toInt + 1 := by rw [i32_add (by rw [i32_1]; omega) (by rw [i32_1]; omega), i32_1]
    rw [m_X8_simulate_L36, m_X9_simulate_L45, if_neg c, if_neg c]
    generalize (xx * (6364136223846793005 : Int64)) + (1442695040888963407 : Int64) = y
    have g := sh33 y
    generalize (y.toUInt64 >>> ((33 : Int32).toInt64.toUInt64 &&& Int64.toUInt64 63)).toInt64.toInt32 = G at *
    exact sim_fin (turn_eq hR hr hB (by omega) g) (fun z9 W s4 s5 s6 => ih nF z9 (mW' mo W) (T + 99) y (k + 1) (by omega) (by omega) (by omega) h5 s4 s5 s6 (by omega))
theorem simulate_eq {z : SpT} {mo : MoT} {T : Int} {x1 : Int64} {x2 : Int32} (h : RS (pN z) (mN mo)) (hr : rOK (mN mo)) (hB : BD T (mN mo)) (hT : T ≤ 1000000) :
    (((m_X8_simulate z x1 x2).1 = 2 ∧ (m_X9_simulate mo x1 x2) = (0, mR' mo 1) ∧ (m_X8_simulate z x1 x2).2.2 = z) ∨ ((m_X8_simulate z x1 x2).1 = 0 ∧ (m_X8_simulate z x1 x2).2.1 = (m_X9_simulate mo x1 x2).1 ∧ (∃ st, (m_X8_simulate z x1 x2).2.2 = pR' z st) ∧ ∃ W, (m_X9_simulate mo x1 x2).2 = mW' (mR' mo 0) W)) := by
  unfold m_X8_simulate m_X9_simulate
  by_cases c1 : x2 < 1
  · rw [if_pos c1, if_pos ((in199_iff x2).mpr (Or.inl c1))]
    exact Or.inl ⟨rfl, rfl, rfl⟩
  rw [if_neg c1]
  by_cases c2 : x2 ≤ 99
  case neg =>
    rw [if_neg c2, if_pos ((in199_iff x2).mpr (Or.inr c2))]
    exact Or.inl ⟨rfl, rfl, rfl⟩
  rw [if_pos c2, if_neg (fun e => ((in199_iff x2).mp e).elim c1 (fun q => q c2))]
  rw [i32_lt, i32_1] at c1
  rw [i32_le, ii99] at c2
  have b1 := h.cp (f := mW mo) hr
  have b2 := cp_rok (g := mW mo) hr
  have b3 := hB.cp (f := mW mo)
  generalize m_X9_copyState (mN mo) (mW mo) 0 0 = W0 at *
  generalize hn : 1000 = nF
  obtain ⟨m, hm⟩ : ∃ m : Nat, x2.toInt = m := ⟨x2.toInt.toNat, by omega⟩
  obtain ⟨k1, k2, ⟨st, k3⟩, W, k4⟩ := sim_L (x1 := x1) (x2 := x2) m nF (pR' z (pN z)) (mW' (mR' mo 0) W0) T x1 0 (by omega) (by rw [hm, i32_0]; omega) (by decide) (by omega) b1 b2 b3 (by omega)
  exact Or.inr ⟨k1, k2, ⟨st, k3⟩, W, k4⟩
