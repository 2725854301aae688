set_option maxHeartbeats 1000000
/-! play: rows of the states between -/
theorem zII (u : zU) (k : Nat) (x : Int32) (i : Nat) (h : ¬ i = k) : zuI (zuI1 u k x) i = zuI u i := if_neg h
theorem zIs (u : zU) (k : Nat) (x : Int32) : zuI (zuI1 u k x) k = x := if_pos rfl
theorem zNN (u : zN) (k : Nat) (x : Int32) (i : Nat) (h : ¬ i = k) : zmI (zmI1 u k x) i = zmI u i := if_neg h
theorem zNs (u : zN) (k : Nat) (x : Int32) : zmI (zmI1 u k x) k = x := if_pos rfl
/-! a card laid -/
def zpU (u : zU) (q k : Nat) (p : Int32) : zU := zusZ (zuR1 (zf_X2_lay u q p) k p) (nI (k + 1))
def zpV (v : zN) (q k : Nat) (p : Int32) : zN := zmI1 (zmR1 (zmL1 (zmC1 (zmI1 v 0 0) q ((zmC v q) &&& ((1 <<< (p.toInt64 &&& 63)) ^^^ (-1)))) q ((zmL v q) ||| (1 <<< (p.toInt64 &&& 63)))) k p) 17 (nI (k + 1))
theorem zpU_I (u : zU) (q k : Nat) (p : Int32) : zuI (zpU u q k p) = zuI u := by
  unfold zpU zf_X2_lay
  rw [zqu_IZ, zqu_IR, zqu_IL, zqu_IC]
theorem zpU_K (u : zU) (q k : Nat) (p : Int32) : zuK (zpU u q k p) = zuK u := by
  unfold zpU zf_X2_lay
  rw [zqu_KZ, zqu_KR, zqu_KL, zqu_KC]
theorem zpU_P (u : zU) (q k : Nat) (p : Int32) : zuP (zpU u q k p) = zuP u := by
  unfold zpU zf_X2_lay
  rw [zqu_PZ, zqu_PR, zqu_PL, zqu_PC]
theorem zpU_T (u : zU) (q k : Nat) (p : Int32) : zuT (zpU u q k p) = zuT u := by
  unfold zpU zf_X2_lay
  rw [zqu_TZ, zqu_TR, zqu_TL, zqu_TC]
theorem zpU_O (u : zU) (q k : Nat) (p : Int32) : zuO (zpU u q k p) = zuO u := by
  unfold zpU zf_X2_lay
  rw [zqu_OZ, zqu_OR, zqu_OL, zqu_OC]
theorem zpU_Z (u : zU) (q k : Nat) (p : Int32) : zuZ (zpU u q k p) = nI (k + 1) := by
  unfold zpU
  rw [zqu_ZZ]
theorem zpU_R (u : zU) (q k : Nat) (p : Int32) (i : Nat) : zuR (zpU u q k p) i = if i = k then p else zuR u i := by
  unfold zpU zf_X2_lay
  rw [zqu_RZ, zqu_RR, zqu_RL, zqu_RC]
theorem zpU_C (u : zU) (q k : Nat) (p : Int32) (i : Nat) : zuC (zpU u q k p) i = if i = q then (zuC u q) &&& ((zf_X1_setOf p) ^^^ (-1)) else zuC u i := by
  unfold zpU zf_X2_lay
  rw [zqu_CZ, zqu_CR, zqu_CL, zqu_CC]
theorem zpU_L (u : zU) (q k : Nat) (p : Int32) (i : Nat) : zuL (zpU u q k p) i = if i = q then (zuL u q) ||| (zf_X1_setOf p) else zuL u i := by
  unfold zpU zf_X2_lay
  rw [zqu_LZ, zqu_LR, zqu_LL, zqu_LC]
theorem zpV_K (v : zN) (q k : Nat) (p : Int32) : zmK (zpV v q k p) = zmK v := by
  unfold zpV
  rw [zqm_KI, zqm_KR, zqm_KL, zqm_KC, zqm_KI]
theorem zpV_P (v : zN) (q k : Nat) (p : Int32) : zmP (zpV v q k p) = zmP v := by
  unfold zpV
  rw [zqm_PI, zqm_PR, zqm_PL, zqm_PC, zqm_PI]
theorem zpV_T (v : zN) (q k : Nat) (p : Int32) : zmT (zpV v q k p) = zmT v := by
  unfold zpV
  rw [zqm_TI, zqm_TR, zqm_TL, zqm_TC, zqm_TI]
theorem zpV_O (v : zN) (q k : Nat) (p : Int32) : zmO (zpV v q k p) = zmO v := by
  unfold zpV
  rw [zqm_OI, zqm_OR, zqm_OL, zqm_OC, zqm_OI]
theorem zpV_I (v : zN) (q k : Nat) (p : Int32) (i : Nat) (h : ¬ i = 17) (h0 : ¬ i = 0) : zmI (zpV v q k p) i = zmI v i := by
  unfold zpV
  rw [zNN _ _ _ _ h, zqm_IR, zqm_IL, zqm_IC, zNN _ _ _ _ h0]
theorem zpV_17 (v : zN) (q k : Nat) (p : Int32) : zmI (zpV v q k p) 17 = nI (k + 1) := by
  unfold zpV
  rw [zNs]
theorem zpV_0 (v : zN) (q k : Nat) (p : Int32) : zmI (zpV v q k p) 0 = 0 := by
  unfold zpV
  rw [zNN _ _ _ _ (by omega), zqm_IR, zqm_IL, zqm_IC, zNs]
theorem zpV_R (v : zN) (q k : Nat) (p : Int32) (i : Nat) : zmR (zpV v q k p) i = if i = k then p else zmR v i := by
  unfold zpV
  rw [zqm_RI, zqm_RR, zqm_RL, zqm_RC, zqm_RI]
theorem zpV_C (v : zN) (q k : Nat) (p : Int32) (i : Nat) : zmC (zpV v q k p) i = if i = q then (zmC v q) &&& ((zf_X1_setOf p) ^^^ (-1)) else zmC v i := by
  unfold zpV zf_X1_setOf
  rw [zqm_CI, zqm_CR, zqm_CL, zqm_CC, zqm_CI]
theorem zpV_L (v : zN) (q k : Nat) (p : Int32) (i : Nat) : zmL (zpV v q k p) i = if i = q then (zmL v q) ||| (zf_X1_setOf p) else zmL v i := by
  unfold zpV zf_X1_setOf
  rw [zqm_LI, zqm_LR, zqm_LL, zqm_LC, zqm_LI]
/-! a trick won -/
def zwU (u : zU) (w : Nat) (s : Int32) : zU := zuI1 (zf_X3_clear (zf_X2_win u w s)) 7 (nI w)
def zwV (v : zN) (w : Nat) (s : Int32) : zN := zmI1 (zmI1 (zmI1 (zmT1 (zmP1 v w ((zmP v w) + s)) w ((zmT v w) + 1)) 17 0) 18 (nI w)) 3 (nI w)
theorem zwU_K (u : zU) (w : Nat) (s : Int32) : zuK (zwU u w s) = zuK u := by
  unfold zwU zf_X3_clear zf_X2_win
  rw [zqu_KI, zqu_KZ, zqu_KT, zqu_KP]
theorem zwU_C (u : zU) (w : Nat) (s : Int32) : zuC (zwU u w s) = zuC u := by
  unfold zwU zf_X3_clear zf_X2_win
  rw [zqu_CI, zqu_CZ, zqu_CT, zqu_CP]
theorem zwU_L (u : zU) (w : Nat) (s : Int32) : zuL (zwU u w s) = zuL u := by
  unfold zwU zf_X3_clear zf_X2_win
  rw [zqu_LI, zqu_LZ, zqu_LT, zqu_LP]
theorem zwU_O (u : zU) (w : Nat) (s : Int32) : zuO (zwU u w s) = zuO u := by
  unfold zwU zf_X3_clear zf_X2_win
  rw [zqu_OI, zqu_OZ, zqu_OT, zqu_OP]
theorem zwU_R (u : zU) (w : Nat) (s : Int32) : zuR (zwU u w s) = zuR u := by
  unfold zwU zf_X3_clear zf_X2_win
  rw [zqu_RI, zqu_RZ, zqu_RT, zqu_RP]
theorem zwU_I (u : zU) (w : Nat) (s : Int32) (i : Nat) (h : ¬ i = 7) : zuI (zwU u w s) i = zuI u i := by
  unfold zwU zf_X3_clear zf_X2_win
  rw [zII _ _ _ _ h, zqu_IZ, zqu_IT, zqu_IP]
theorem zwU_7 (u : zU) (w : Nat) (s : Int32) : zuI (zwU u w s) 7 = nI w := by
  unfold zwU
  rw [zIs]
theorem zwU_Z (u : zU) (w : Nat) (s : Int32) : zuZ (zwU u w s) = 0 := by
  unfold zwU zf_X3_clear
  rw [zqu_ZI, zqu_ZZ]
theorem zwU_P (u : zU) (w : Nat) (s : Int32) (i : Nat) : zuP (zwU u w s) i = if i = w then (zuP u w) + s else zuP u i := by
  unfold zwU zf_X3_clear zf_X2_win
  rw [zqu_PI, zqu_PZ, zqu_PT, zqu_PP]
theorem zwU_T (u : zU) (w : Nat) (s : Int32) (i : Nat) : zuT (zwU u w s) i = if i = w then (zuT u w) + 1 else zuT u i := by
  unfold zwU zf_X3_clear zf_X2_win
  rw [zqu_TI, zqu_TZ, zqu_TT, zqu_TP]
theorem zwV_K (v : zN) (w : Nat) (s : Int32) : zmK (zwV v w s) = zmK v := by
  unfold zwV
  rw [zqm_KI, zqm_KI, zqm_KI, zqm_KT, zqm_KP]
theorem zwV_C (v : zN) (w : Nat) (s : Int32) : zmC (zwV v w s) = zmC v := by
  unfold zwV
  rw [zqm_CI, zqm_CI, zqm_CI, zqm_CT, zqm_CP]
theorem zwV_L (v : zN) (w : Nat) (s : Int32) : zmL (zwV v w s) = zmL v := by
  unfold zwV
  rw [zqm_LI, zqm_LI, zqm_LI, zqm_LT, zqm_LP]
theorem zwV_O (v : zN) (w : Nat) (s : Int32) : zmO (zwV v w s) = zmO v := by
  unfold zwV
  rw [zqm_OI, zqm_OI, zqm_OI, zqm_OT, zqm_OP]
theorem zwV_R (v : zN) (w : Nat) (s : Int32) : zmR (zwV v w s) = zmR v := by
  unfold zwV
  rw [zqm_RI, zqm_RI, zqm_RI, zqm_RT, zqm_RP]
theorem zwV_I (v : zN) (w : Nat) (s : Int32) (i : Nat) (h3 : ¬ i = 3) (h18 : ¬ i = 18) (h17 : ¬ i = 17) : zmI (zwV v w s) i = zmI v i := by
  unfold zwV
  rw [zNN _ _ _ _ h3, zNN _ _ _ _ h18, zNN _ _ _ _ h17, zqm_IT, zqm_IP]
theorem zwV_3 (v : zN) (w : Nat) (s : Int32) : zmI (zwV v w s) 3 = nI w := by
  unfold zwV
  rw [zNs]
theorem zwV_18 (v : zN) (w : Nat) (s : Int32) : zmI (zwV v w s) 18 = nI w := by
  unfold zwV
  rw [zNN _ _ _ _ (by omega), zNs]
theorem zwV_17 (v : zN) (w : Nat) (s : Int32) : zmI (zwV v w s) 17 = 0 := by
  unfold zwV
  rw [zNN _ _ _ _ (by omega), zNN _ _ _ _ (by omega), zNs]
theorem zwV_P (v : zN) (w : Nat) (s : Int32) (i : Nat) : zmP (zwV v w s) i = if i = w then (zmP v w) + s else zmP v i := by
  unfold zwV
  rw [zqm_PI, zqm_PI, zqm_PI, zqm_PT, zqm_PP]
theorem zwV_T (v : zN) (w : Nat) (s : Int32) (i : Nat) : zmT (zwV v w s) i = if i = w then (zmT v w) + 1 else zmT v i := by
  unfold zwV
  rw [zqm_TI, zqm_TI, zqm_TI, zqm_TT, zqm_TP]
/-! the end of a deal -/
def zeU (u : zU) (w : Nat) (s : Int32) : zU := zuP1 (zuI1 (zuI1 u 6 6) 7 (-1)) w ((zuP u w) + s)
def zeV (v : zN) (w : Nat) (s : Int32) : zN := zmP1 (zmI1 v 2 6) w ((zmP v w) + s)
theorem zeU_K (u : zU) (w : Nat) (s : Int32) : zuK (zeU u w s) = zuK u := by
  unfold zeU
  rw [zqu_KP, zqu_KI, zqu_KI]
theorem zeU_C (u : zU) (w : Nat) (s : Int32) : zuC (zeU u w s) = zuC u := by
  unfold zeU
  rw [zqu_CP, zqu_CI, zqu_CI]
theorem zeU_L (u : zU) (w : Nat) (s : Int32) : zuL (zeU u w s) = zuL u := by
  unfold zeU
  rw [zqu_LP, zqu_LI, zqu_LI]
theorem zeU_O (u : zU) (w : Nat) (s : Int32) : zuO (zeU u w s) = zuO u := by
  unfold zeU
  rw [zqu_OP, zqu_OI, zqu_OI]
theorem zeU_R (u : zU) (w : Nat) (s : Int32) : zuR (zeU u w s) = zuR u := by
  unfold zeU
  rw [zqu_RP, zqu_RI, zqu_RI]
theorem zeU_T (u : zU) (w : Nat) (s : Int32) : zuT (zeU u w s) = zuT u := by
  unfold zeU
  rw [zqu_TP, zqu_TI, zqu_TI]
theorem zeU_Z (u : zU) (w : Nat) (s : Int32) : zuZ (zeU u w s) = zuZ u := by
  unfold zeU
  rw [zqu_ZP, zqu_ZI, zqu_ZI]
theorem zeU_I (u : zU) (w : Nat) (s : Int32) (i : Nat) (h7 : ¬ i = 7) (h6 : ¬ i = 6) : zuI (zeU u w s) i = zuI u i := by
  unfold zeU
  rw [zqu_IP, zII _ _ _ _ h7, zII _ _ _ _ h6]
theorem zeU_7 (u : zU) (w : Nat) (s : Int32) : zuI (zeU u w s) 7 = -1 := by
  unfold zeU
  rw [zqu_IP, zIs]
theorem zeU_6 (u : zU) (w : Nat) (s : Int32) : zuI (zeU u w s) 6 = 6 := by
  unfold zeU
  rw [zqu_IP, zII _ _ _ _ (by omega), zIs]
theorem zeU_P (u : zU) (w : Nat) (s : Int32) (i : Nat) : zuP (zeU u w s) i = if i = w then (zuP u w) + s else zuP u i := by
  unfold zeU
  rw [zqu_PP, zqu_PI, zqu_PI]
theorem zeV_K (v : zN) (w : Nat) (s : Int32) : zmK (zeV v w s) = zmK v := by
  unfold zeV
  rw [zqm_KP, zqm_KI]
theorem zeV_C (v : zN) (w : Nat) (s : Int32) : zmC (zeV v w s) = zmC v := by
  unfold zeV
  rw [zqm_CP, zqm_CI]
theorem zeV_L (v : zN) (w : Nat) (s : Int32) : zmL (zeV v w s) = zmL v := by
  unfold zeV
  rw [zqm_LP, zqm_LI]
theorem zeV_O (v : zN) (w : Nat) (s : Int32) : zmO (zeV v w s) = zmO v := by
  unfold zeV
  rw [zqm_OP, zqm_OI]
theorem zeV_R (v : zN) (w : Nat) (s : Int32) : zmR (zeV v w s) = zmR v := by
  unfold zeV
  rw [zqm_RP, zqm_RI]
theorem zeV_T (v : zN) (w : Nat) (s : Int32) : zmT (zeV v w s) = zmT v := by
  unfold zeV
  rw [zqm_TP, zqm_TI]
theorem zeV_I (v : zN) (w : Nat) (s : Int32) (i : Nat) (h2 : ¬ i = 2) : zmI (zeV v w s) i = zmI v i := by
  unfold zeV
  rw [zqm_IP, zNN _ _ _ _ h2]
theorem zeV_2 (v : zN) (w : Nat) (s : Int32) : zmI (zeV v w s) 2 = 6 := by
  unfold zeV
  rw [zqm_IP, zNs]
theorem zeV_P (v : zN) (w : Nat) (s : Int32) (i : Nat) : zmP (zeV v w s) i = if i = w then (zmP v w) + s else zmP v i := by
  unfold zeV
  rw [zqm_PP, zqm_PI]
/-! ramsch lost -/
theorem zupd_self (f : Nat → Int32) (k : Nat) : upd f k (f k) = f := by
  funext j
  show (if j = k then f k else f j) = f j
  by_cases h : j = k
  · rw [if_pos h, h]
  · rw [if_neg h]
theorem zlr_I (u : zU) (j : Nat) (p : Int32) : zuI (zf_X2_loseRamschWith u j p) = zuI u := by
  unfold zf_X2_loseRamschWith
  by_cases h : zuP u j = p
  · rw [if_pos h, zqu_IO]
  · rw [if_neg h]
theorem zlr_K (u : zU) (j : Nat) (p : Int32) : zuK (zf_X2_loseRamschWith u j p) = zuK u := by
  unfold zf_X2_loseRamschWith
  by_cases h : zuP u j = p
  · rw [if_pos h, zqu_KO]
  · rw [if_neg h]
theorem zlr_C (u : zU) (j : Nat) (p : Int32) : zuC (zf_X2_loseRamschWith u j p) = zuC u := by
  unfold zf_X2_loseRamschWith
  by_cases h : zuP u j = p
  · rw [if_pos h, zqu_CO]
  · rw [if_neg h]
theorem zlr_L (u : zU) (j : Nat) (p : Int32) : zuL (zf_X2_loseRamschWith u j p) = zuL u := by
  unfold zf_X2_loseRamschWith
  by_cases h : zuP u j = p
  · rw [if_pos h, zqu_LO]
  · rw [if_neg h]
theorem zlr_P (u : zU) (j : Nat) (p : Int32) : zuP (zf_X2_loseRamschWith u j p) = zuP u := by
  unfold zf_X2_loseRamschWith
  by_cases h : zuP u j = p
  · rw [if_pos h, zqu_PO]
  · rw [if_neg h]
theorem zlr_T (u : zU) (j : Nat) (p : Int32) : zuT (zf_X2_loseRamschWith u j p) = zuT u := by
  unfold zf_X2_loseRamschWith
  by_cases h : zuP u j = p
  · rw [if_pos h, zqu_TO]
  · rw [if_neg h]
theorem zlr_R (u : zU) (j : Nat) (p : Int32) : zuR (zf_X2_loseRamschWith u j p) = zuR u := by
  unfold zf_X2_loseRamschWith
  by_cases h : zuP u j = p
  · rw [if_pos h, zqu_RO]
  · rw [if_neg h]
theorem zlr_Z (u : zU) (j : Nat) (p : Int32) : zuZ (zf_X2_loseRamschWith u j p) = zuZ u := by
  unfold zf_X2_loseRamschWith
  by_cases h : zuP u j = p
  · rw [if_pos h, zqu_ZO]
  · rw [if_neg h]
theorem zlr_O (u : zU) (j : Nat) (p : Int32) (i : Nat) : zuO (zf_X2_loseRamschWith u j p) i = if i = j then zuO u j - (if zuP u j = p then p else 0) else zuO u i := by
  unfold zf_X2_loseRamschWith
  by_cases h : zuP u j = p
  · rw [if_pos h, if_pos h, zqu_OO]
  · rw [if_neg h, if_neg h, Int32.sub_zero]
    by_cases hi : i = j
    · rw [if_pos hi, hi]
    · rw [if_neg hi]
theorem zsr_I (u : zU) : zuI (zf_X4_scoreRamsch u) = zuI u := by
  unfold zf_X4_scoreRamsch
  rw [zlr_I, zlr_I, zlr_I]
theorem zsr_K (u : zU) : zuK (zf_X4_scoreRamsch u) = zuK u := by
  unfold zf_X4_scoreRamsch
  rw [zlr_K, zlr_K, zlr_K]
theorem zsr_C (u : zU) : zuC (zf_X4_scoreRamsch u) = zuC u := by
  unfold zf_X4_scoreRamsch
  rw [zlr_C, zlr_C, zlr_C]
theorem zsr_L (u : zU) : zuL (zf_X4_scoreRamsch u) = zuL u := by
  unfold zf_X4_scoreRamsch
  rw [zlr_L, zlr_L, zlr_L]
theorem zsr_P (u : zU) : zuP (zf_X4_scoreRamsch u) = zuP u := by
  unfold zf_X4_scoreRamsch
  rw [zlr_P, zlr_P, zlr_P]
theorem zsr_T (u : zU) : zuT (zf_X4_scoreRamsch u) = zuT u := by
  unfold zf_X4_scoreRamsch
  rw [zlr_T, zlr_T, zlr_T]
theorem zsr_R (u : zU) : zuR (zf_X4_scoreRamsch u) = zuR u := by
  unfold zf_X4_scoreRamsch
  rw [zlr_R, zlr_R, zlr_R]
theorem zsr_Z (u : zU) : zuZ (zf_X4_scoreRamsch u) = zuZ u := by
  unfold zf_X4_scoreRamsch
  rw [zlr_Z, zlr_Z, zlr_Z]
theorem zsr_O (u : zU) : ∀ j, j < 3 → zuO (zf_X4_scoreRamsch u) j = zuO u j - (if zuP u j = zf_X4_mostPoints u then zf_X4_mostPoints u else 0) := by
  intro j hj
  unfold zf_X4_scoreRamsch
  by_cases h2 : j = 2
  · subst h2
    rw [zlr_O, if_pos rfl, zlr_O, if_neg (by omega), zlr_O, if_neg (by omega), zlr_P, zlr_P]
  · by_cases h1 : j = 1
    · subst h1
      rw [zlr_O, if_neg (by omega), zlr_O, if_pos rfl, zlr_O, if_neg (by omega), zlr_P]
    · obtain rfl : j = 0 := by omega
      rw [zlr_O, if_neg (by omega), zlr_O, if_neg (by omega), zlr_O, if_pos rfl]
