/-! projections of setters -/
theorem zqu_II (u : zU) (k : Nat) (x : Int32) (i : Nat) : zuI (zuI1 u k x) i = if i = k then x else zuI u i := rfl
theorem zqu_KI (u : zU) (k : Nat) (x : Int32) : zuK (zuI1 u k x) = zuK u := rfl
theorem zqu_CI (u : zU) (k : Nat) (x : Int32) : zuC (zuI1 u k x) = zuC u := rfl
theorem zqu_LI (u : zU) (k : Nat) (x : Int32) : zuL (zuI1 u k x) = zuL u := rfl
theorem zqu_PI (u : zU) (k : Nat) (x : Int32) : zuP (zuI1 u k x) = zuP u := rfl
theorem zqu_TI (u : zU) (k : Nat) (x : Int32) : zuT (zuI1 u k x) = zuT u := rfl
theorem zqu_OI (u : zU) (k : Nat) (x : Int32) : zuO (zuI1 u k x) = zuO u := rfl
theorem zqu_RI (u : zU) (k : Nat) (x : Int32) : zuR (zuI1 u k x) = zuR u := rfl
theorem zqu_ZI (u : zU) (k : Nat) (x : Int32) : zuZ (zuI1 u k x) = zuZ u := rfl
theorem zqu_DI (u : zU) (k : Nat) (x : Int32) : zuD (zuI1 u k x) = zuD u := rfl
theorem zqu_IK (u : zU) (x : Int64) : zuI (zusK u x) = zuI u := rfl
theorem zqu_KK (u : zU) (x : Int64) : zuK (zusK u x) = x := rfl
theorem zqu_CK (u : zU) (x : Int64) : zuC (zusK u x) = zuC u := rfl
theorem zqu_LK (u : zU) (x : Int64) : zuL (zusK u x) = zuL u := rfl
theorem zqu_PK (u : zU) (x : Int64) : zuP (zusK u x) = zuP u := rfl
theorem zqu_TK (u : zU) (x : Int64) : zuT (zusK u x) = zuT u := rfl
theorem zqu_OK (u : zU) (x : Int64) : zuO (zusK u x) = zuO u := rfl
theorem zqu_RK (u : zU) (x : Int64) : zuR (zusK u x) = zuR u := rfl
theorem zqu_ZK (u : zU) (x : Int64) : zuZ (zusK u x) = zuZ u := rfl
theorem zqu_DK (u : zU) (x : Int64) : zuD (zusK u x) = zuD u := rfl
theorem zqu_IC (u : zU) (k : Nat) (x : Int64) : zuI (zuC1 u k x) = zuI u := rfl
theorem zqu_KC (u : zU) (k : Nat) (x : Int64) : zuK (zuC1 u k x) = zuK u := rfl
theorem zqu_CC (u : zU) (k : Nat) (x : Int64) (i : Nat) : zuC (zuC1 u k x) i = if i = k then x else zuC u i := rfl
theorem zqu_LC (u : zU) (k : Nat) (x : Int64) : zuL (zuC1 u k x) = zuL u := rfl
theorem zqu_PC (u : zU) (k : Nat) (x : Int64) : zuP (zuC1 u k x) = zuP u := rfl
theorem zqu_TC (u : zU) (k : Nat) (x : Int64) : zuT (zuC1 u k x) = zuT u := rfl
theorem zqu_OC (u : zU) (k : Nat) (x : Int64) : zuO (zuC1 u k x) = zuO u := rfl
theorem zqu_RC (u : zU) (k : Nat) (x : Int64) : zuR (zuC1 u k x) = zuR u := rfl
theorem zqu_ZC (u : zU) (k : Nat) (x : Int64) : zuZ (zuC1 u k x) = zuZ u := rfl
theorem zqu_DC (u : zU) (k : Nat) (x : Int64) : zuD (zuC1 u k x) = zuD u := rfl
theorem zqu_IL (u : zU) (k : Nat) (x : Int64) : zuI (zuL1 u k x) = zuI u := rfl
theorem zqu_KL (u : zU) (k : Nat) (x : Int64) : zuK (zuL1 u k x) = zuK u := rfl
theorem zqu_CL (u : zU) (k : Nat) (x : Int64) : zuC (zuL1 u k x) = zuC u := rfl
theorem zqu_LL (u : zU) (k : Nat) (x : Int64) (i : Nat) : zuL (zuL1 u k x) i = if i = k then x else zuL u i := rfl
theorem zqu_PL (u : zU) (k : Nat) (x : Int64) : zuP (zuL1 u k x) = zuP u := rfl
theorem zqu_TL (u : zU) (k : Nat) (x : Int64) : zuT (zuL1 u k x) = zuT u := rfl
theorem zqu_OL (u : zU) (k : Nat) (x : Int64) : zuO (zuL1 u k x) = zuO u := rfl
theorem zqu_RL (u : zU) (k : Nat) (x : Int64) : zuR (zuL1 u k x) = zuR u := rfl
theorem zqu_ZL (u : zU) (k : Nat) (x : Int64) : zuZ (zuL1 u k x) = zuZ u := rfl
theorem zqu_DL (u : zU) (k : Nat) (x : Int64) : zuD (zuL1 u k x) = zuD u := rfl
theorem zqu_IP (u : zU) (k : Nat) (x : Int32) : zuI (zuP1 u k x) = zuI u := rfl
theorem zqu_KP (u : zU) (k : Nat) (x : Int32) : zuK (zuP1 u k x) = zuK u := rfl
theorem zqu_CP (u : zU) (k : Nat) (x : Int32) : zuC (zuP1 u k x) = zuC u := rfl
theorem zqu_LP (u : zU) (k : Nat) (x : Int32) : zuL (zuP1 u k x) = zuL u := rfl
theorem zqu_PP (u : zU) (k : Nat) (x : Int32) (i : Nat) : zuP (zuP1 u k x) i = if i = k then x else zuP u i := rfl
theorem zqu_TP (u : zU) (k : Nat) (x : Int32) : zuT (zuP1 u k x) = zuT u := rfl
theorem zqu_OP (u : zU) (k : Nat) (x : Int32) : zuO (zuP1 u k x) = zuO u := rfl
theorem zqu_RP (u : zU) (k : Nat) (x : Int32) : zuR (zuP1 u k x) = zuR u := rfl
theorem zqu_ZP (u : zU) (k : Nat) (x : Int32) : zuZ (zuP1 u k x) = zuZ u := rfl
theorem zqu_DP (u : zU) (k : Nat) (x : Int32) : zuD (zuP1 u k x) = zuD u := rfl
theorem zqu_IT (u : zU) (k : Nat) (x : Int32) : zuI (zuT1 u k x) = zuI u := rfl
theorem zqu_KT (u : zU) (k : Nat) (x : Int32) : zuK (zuT1 u k x) = zuK u := rfl
theorem zqu_CT (u : zU) (k : Nat) (x : Int32) : zuC (zuT1 u k x) = zuC u := rfl
theorem zqu_LT (u : zU) (k : Nat) (x : Int32) : zuL (zuT1 u k x) = zuL u := rfl
theorem zqu_PT (u : zU) (k : Nat) (x : Int32) : zuP (zuT1 u k x) = zuP u := rfl
theorem zqu_TT (u : zU) (k : Nat) (x : Int32) (i : Nat) : zuT (zuT1 u k x) i = if i = k then x else zuT u i := rfl
theorem zqu_OT (u : zU) (k : Nat) (x : Int32) : zuO (zuT1 u k x) = zuO u := rfl
theorem zqu_RT (u : zU) (k : Nat) (x : Int32) : zuR (zuT1 u k x) = zuR u := rfl
theorem zqu_ZT (u : zU) (k : Nat) (x : Int32) : zuZ (zuT1 u k x) = zuZ u := rfl
theorem zqu_DT (u : zU) (k : Nat) (x : Int32) : zuD (zuT1 u k x) = zuD u := rfl
theorem zqu_IO (u : zU) (k : Nat) (x : Int32) : zuI (zuO1 u k x) = zuI u := rfl
theorem zqu_KO (u : zU) (k : Nat) (x : Int32) : zuK (zuO1 u k x) = zuK u := rfl
theorem zqu_CO (u : zU) (k : Nat) (x : Int32) : zuC (zuO1 u k x) = zuC u := rfl
theorem zqu_LO (u : zU) (k : Nat) (x : Int32) : zuL (zuO1 u k x) = zuL u := rfl
theorem zqu_PO (u : zU) (k : Nat) (x : Int32) : zuP (zuO1 u k x) = zuP u := rfl
theorem zqu_TO (u : zU) (k : Nat) (x : Int32) : zuT (zuO1 u k x) = zuT u := rfl
theorem zqu_OO (u : zU) (k : Nat) (x : Int32) (i : Nat) : zuO (zuO1 u k x) i = if i = k then x else zuO u i := rfl
theorem zqu_RO (u : zU) (k : Nat) (x : Int32) : zuR (zuO1 u k x) = zuR u := rfl
theorem zqu_ZO (u : zU) (k : Nat) (x : Int32) : zuZ (zuO1 u k x) = zuZ u := rfl
theorem zqu_DO (u : zU) (k : Nat) (x : Int32) : zuD (zuO1 u k x) = zuD u := rfl
theorem zqu_IR (u : zU) (k : Nat) (x : Int32) : zuI (zuR1 u k x) = zuI u := rfl
theorem zqu_KR (u : zU) (k : Nat) (x : Int32) : zuK (zuR1 u k x) = zuK u := rfl
theorem zqu_CR (u : zU) (k : Nat) (x : Int32) : zuC (zuR1 u k x) = zuC u := rfl
theorem zqu_LR (u : zU) (k : Nat) (x : Int32) : zuL (zuR1 u k x) = zuL u := rfl
theorem zqu_PR (u : zU) (k : Nat) (x : Int32) : zuP (zuR1 u k x) = zuP u := rfl
theorem zqu_TR (u : zU) (k : Nat) (x : Int32) : zuT (zuR1 u k x) = zuT u := rfl
theorem zqu_OR (u : zU) (k : Nat) (x : Int32) : zuO (zuR1 u k x) = zuO u := rfl
theorem zqu_RR (u : zU) (k : Nat) (x : Int32) (i : Nat) : zuR (zuR1 u k x) i = if i = k then x else zuR u i := rfl
theorem zqu_ZR (u : zU) (k : Nat) (x : Int32) : zuZ (zuR1 u k x) = zuZ u := rfl
theorem zqu_DR (u : zU) (k : Nat) (x : Int32) : zuD (zuR1 u k x) = zuD u := rfl
theorem zqu_IZ (u : zU) (x : Int32) : zuI (zusZ u x) = zuI u := rfl
theorem zqu_KZ (u : zU) (x : Int32) : zuK (zusZ u x) = zuK u := rfl
theorem zqu_CZ (u : zU) (x : Int32) : zuC (zusZ u x) = zuC u := rfl
theorem zqu_LZ (u : zU) (x : Int32) : zuL (zusZ u x) = zuL u := rfl
theorem zqu_PZ (u : zU) (x : Int32) : zuP (zusZ u x) = zuP u := rfl
theorem zqu_TZ (u : zU) (x : Int32) : zuT (zusZ u x) = zuT u := rfl
theorem zqu_OZ (u : zU) (x : Int32) : zuO (zusZ u x) = zuO u := rfl
theorem zqu_RZ (u : zU) (x : Int32) : zuR (zusZ u x) = zuR u := rfl
theorem zqu_ZZ (u : zU) (x : Int32) : zuZ (zusZ u x) = x := rfl
theorem zqu_DZ (u : zU) (x : Int32) : zuD (zusZ u x) = zuD u := rfl
theorem zqu_ID (u : zU) (k : Nat) (x : Int32) : zuI (zuD1 u k x) = zuI u := rfl
theorem zqu_KD (u : zU) (k : Nat) (x : Int32) : zuK (zuD1 u k x) = zuK u := rfl
theorem zqu_CD (u : zU) (k : Nat) (x : Int32) : zuC (zuD1 u k x) = zuC u := rfl
theorem zqu_LD (u : zU) (k : Nat) (x : Int32) : zuL (zuD1 u k x) = zuL u := rfl
theorem zqu_PD (u : zU) (k : Nat) (x : Int32) : zuP (zuD1 u k x) = zuP u := rfl
theorem zqu_TD (u : zU) (k : Nat) (x : Int32) : zuT (zuD1 u k x) = zuT u := rfl
theorem zqu_OD (u : zU) (k : Nat) (x : Int32) : zuO (zuD1 u k x) = zuO u := rfl
theorem zqu_RD (u : zU) (k : Nat) (x : Int32) : zuR (zuD1 u k x) = zuR u := rfl
theorem zqu_ZD (u : zU) (k : Nat) (x : Int32) : zuZ (zuD1 u k x) = zuZ u := rfl
theorem zqu_DD (u : zU) (k : Nat) (x : Int32) (i : Nat) : zuD (zuD1 u k x) i = if i = k then x else zuD u i := rfl
theorem zqm_II (u : zN) (k : Nat) (x : Int32) (i : Nat) : zmI (zmI1 u k x) i = if i = k then x else zmI u i := rfl
theorem zqm_KI (u : zN) (k : Nat) (x : Int32) : zmK (zmI1 u k x) = zmK u := rfl
theorem zqm_DI (u : zN) (k : Nat) (x : Int32) : zmD (zmI1 u k x) = zmD u := rfl
theorem zqm_CI (u : zN) (k : Nat) (x : Int32) : zmC (zmI1 u k x) = zmC u := rfl
theorem zqm_LI (u : zN) (k : Nat) (x : Int32) : zmL (zmI1 u k x) = zmL u := rfl
theorem zqm_RI (u : zN) (k : Nat) (x : Int32) : zmR (zmI1 u k x) = zmR u := rfl
theorem zqm_PI (u : zN) (k : Nat) (x : Int32) : zmP (zmI1 u k x) = zmP u := rfl
theorem zqm_TI (u : zN) (k : Nat) (x : Int32) : zmT (zmI1 u k x) = zmT u := rfl
theorem zqm_OI (u : zN) (k : Nat) (x : Int32) : zmO (zmI1 u k x) = zmO u := rfl
theorem zqm_IK (u : zN) (x : Int64) : zmI (zmsK u x) = zmI u := rfl
theorem zqm_KK (u : zN) (x : Int64) : zmK (zmsK u x) = x := rfl
theorem zqm_DK (u : zN) (x : Int64) : zmD (zmsK u x) = zmD u := rfl
theorem zqm_CK (u : zN) (x : Int64) : zmC (zmsK u x) = zmC u := rfl
theorem zqm_LK (u : zN) (x : Int64) : zmL (zmsK u x) = zmL u := rfl
theorem zqm_RK (u : zN) (x : Int64) : zmR (zmsK u x) = zmR u := rfl
theorem zqm_PK (u : zN) (x : Int64) : zmP (zmsK u x) = zmP u := rfl
theorem zqm_TK (u : zN) (x : Int64) : zmT (zmsK u x) = zmT u := rfl
theorem zqm_OK (u : zN) (x : Int64) : zmO (zmsK u x) = zmO u := rfl
theorem zqm_ID (u : zN) (k : Nat) (x : Int32) : zmI (zmD1 u k x) = zmI u := rfl
theorem zqm_KD (u : zN) (k : Nat) (x : Int32) : zmK (zmD1 u k x) = zmK u := rfl
theorem zqm_DD (u : zN) (k : Nat) (x : Int32) (i : Nat) : zmD (zmD1 u k x) i = if i = k then x else zmD u i := rfl
theorem zqm_CD (u : zN) (k : Nat) (x : Int32) : zmC (zmD1 u k x) = zmC u := rfl
theorem zqm_LD (u : zN) (k : Nat) (x : Int32) : zmL (zmD1 u k x) = zmL u := rfl
theorem zqm_RD (u : zN) (k : Nat) (x : Int32) : zmR (zmD1 u k x) = zmR u := rfl
theorem zqm_PD (u : zN) (k : Nat) (x : Int32) : zmP (zmD1 u k x) = zmP u := rfl
theorem zqm_TD (u : zN) (k : Nat) (x : Int32) : zmT (zmD1 u k x) = zmT u := rfl
theorem zqm_OD (u : zN) (k : Nat) (x : Int32) : zmO (zmD1 u k x) = zmO u := rfl
theorem zqm_IC (u : zN) (k : Nat) (x : Int64) : zmI (zmC1 u k x) = zmI u := rfl
theorem zqm_KC (u : zN) (k : Nat) (x : Int64) : zmK (zmC1 u k x) = zmK u := rfl
theorem zqm_DC (u : zN) (k : Nat) (x : Int64) : zmD (zmC1 u k x) = zmD u := rfl
theorem zqm_CC (u : zN) (k : Nat) (x : Int64) (i : Nat) : zmC (zmC1 u k x) i = if i = k then x else zmC u i := rfl
theorem zqm_LC (u : zN) (k : Nat) (x : Int64) : zmL (zmC1 u k x) = zmL u := rfl
theorem zqm_RC (u : zN) (k : Nat) (x : Int64) : zmR (zmC1 u k x) = zmR u := rfl
theorem zqm_PC (u : zN) (k : Nat) (x : Int64) : zmP (zmC1 u k x) = zmP u := rfl
theorem zqm_TC (u : zN) (k : Nat) (x : Int64) : zmT (zmC1 u k x) = zmT u := rfl
theorem zqm_OC (u : zN) (k : Nat) (x : Int64) : zmO (zmC1 u k x) = zmO u := rfl
theorem zqm_IL (u : zN) (k : Nat) (x : Int64) : zmI (zmL1 u k x) = zmI u := rfl
theorem zqm_KL (u : zN) (k : Nat) (x : Int64) : zmK (zmL1 u k x) = zmK u := rfl
theorem zqm_DL (u : zN) (k : Nat) (x : Int64) : zmD (zmL1 u k x) = zmD u := rfl
theorem zqm_CL (u : zN) (k : Nat) (x : Int64) : zmC (zmL1 u k x) = zmC u := rfl
theorem zqm_LL (u : zN) (k : Nat) (x : Int64) (i : Nat) : zmL (zmL1 u k x) i = if i = k then x else zmL u i := rfl
theorem zqm_RL (u : zN) (k : Nat) (x : Int64) : zmR (zmL1 u k x) = zmR u := rfl
theorem zqm_PL (u : zN) (k : Nat) (x : Int64) : zmP (zmL1 u k x) = zmP u := rfl
theorem zqm_TL (u : zN) (k : Nat) (x : Int64) : zmT (zmL1 u k x) = zmT u := rfl
theorem zqm_OL (u : zN) (k : Nat) (x : Int64) : zmO (zmL1 u k x) = zmO u := rfl
theorem zqm_IR (u : zN) (k : Nat) (x : Int32) : zmI (zmR1 u k x) = zmI u := rfl
theorem zqm_KR (u : zN) (k : Nat) (x : Int32) : zmK (zmR1 u k x) = zmK u := rfl
theorem zqm_DR (u : zN) (k : Nat) (x : Int32) : zmD (zmR1 u k x) = zmD u := rfl
theorem zqm_CR (u : zN) (k : Nat) (x : Int32) : zmC (zmR1 u k x) = zmC u := rfl
theorem zqm_LR (u : zN) (k : Nat) (x : Int32) : zmL (zmR1 u k x) = zmL u := rfl
theorem zqm_RR (u : zN) (k : Nat) (x : Int32) (i : Nat) : zmR (zmR1 u k x) i = if i = k then x else zmR u i := rfl
theorem zqm_PR (u : zN) (k : Nat) (x : Int32) : zmP (zmR1 u k x) = zmP u := rfl
theorem zqm_TR (u : zN) (k : Nat) (x : Int32) : zmT (zmR1 u k x) = zmT u := rfl
theorem zqm_OR (u : zN) (k : Nat) (x : Int32) : zmO (zmR1 u k x) = zmO u := rfl
theorem zqm_IP (u : zN) (k : Nat) (x : Int32) : zmI (zmP1 u k x) = zmI u := rfl
theorem zqm_KP (u : zN) (k : Nat) (x : Int32) : zmK (zmP1 u k x) = zmK u := rfl
theorem zqm_DP (u : zN) (k : Nat) (x : Int32) : zmD (zmP1 u k x) = zmD u := rfl
theorem zqm_CP (u : zN) (k : Nat) (x : Int32) : zmC (zmP1 u k x) = zmC u := rfl
theorem zqm_LP (u : zN) (k : Nat) (x : Int32) : zmL (zmP1 u k x) = zmL u := rfl
theorem zqm_RP (u : zN) (k : Nat) (x : Int32) : zmR (zmP1 u k x) = zmR u := rfl
theorem zqm_PP (u : zN) (k : Nat) (x : Int32) (i : Nat) : zmP (zmP1 u k x) i = if i = k then x else zmP u i := rfl
theorem zqm_TP (u : zN) (k : Nat) (x : Int32) : zmT (zmP1 u k x) = zmT u := rfl
theorem zqm_OP (u : zN) (k : Nat) (x : Int32) : zmO (zmP1 u k x) = zmO u := rfl
theorem zqm_IT (u : zN) (k : Nat) (x : Int32) : zmI (zmT1 u k x) = zmI u := rfl
theorem zqm_KT (u : zN) (k : Nat) (x : Int32) : zmK (zmT1 u k x) = zmK u := rfl
theorem zqm_DT (u : zN) (k : Nat) (x : Int32) : zmD (zmT1 u k x) = zmD u := rfl
theorem zqm_CT (u : zN) (k : Nat) (x : Int32) : zmC (zmT1 u k x) = zmC u := rfl
theorem zqm_LT (u : zN) (k : Nat) (x : Int32) : zmL (zmT1 u k x) = zmL u := rfl
theorem zqm_RT (u : zN) (k : Nat) (x : Int32) : zmR (zmT1 u k x) = zmR u := rfl
theorem zqm_PT (u : zN) (k : Nat) (x : Int32) : zmP (zmT1 u k x) = zmP u := rfl
theorem zqm_TT (u : zN) (k : Nat) (x : Int32) (i : Nat) : zmT (zmT1 u k x) i = if i = k then x else zmT u i := rfl
theorem zqm_OT (u : zN) (k : Nat) (x : Int32) : zmO (zmT1 u k x) = zmO u := rfl
theorem zqm_IO (u : zN) (k : Nat) (x : Int32) : zmI (zmO1 u k x) = zmI u := rfl
theorem zqm_KO (u : zN) (k : Nat) (x : Int32) : zmK (zmO1 u k x) = zmK u := rfl
theorem zqm_DO (u : zN) (k : Nat) (x : Int32) : zmD (zmO1 u k x) = zmD u := rfl
theorem zqm_CO (u : zN) (k : Nat) (x : Int32) : zmC (zmO1 u k x) = zmC u := rfl
theorem zqm_LO (u : zN) (k : Nat) (x : Int32) : zmL (zmO1 u k x) = zmL u := rfl
theorem zqm_RO (u : zN) (k : Nat) (x : Int32) : zmR (zmO1 u k x) = zmR u := rfl
theorem zqm_PO (u : zN) (k : Nat) (x : Int32) : zmP (zmO1 u k x) = zmP u := rfl
theorem zqm_TO (u : zN) (k : Nat) (x : Int32) : zmT (zmO1 u k x) = zmT u := rfl
theorem zqm_OO (u : zN) (k : Nat) (x : Int32) (i : Nat) : zmO (zmO1 u k x) i = if i = k then x else zmO u i := rfl
/-! bits -/
theorem zlc0 {x y : Int64} : lg_cmp x y = 0 ↔ x = y := by
  constructor
  · intro h
    unfold lg_cmp at h
    by_cases h1 : x > y
    · rw [if_pos h1] at h; exact absurd h (by decide)
    · rw [if_neg h1] at h
      by_cases h2 : x = y
      · exact h2
      · rw [if_neg h2] at h; exact absurd h (by decide)
  · intro h
    subst h
    unfold lg_cmp
    simp
theorem zsm (s : BitVec 64) : (s.smod 64#64).toNat < 64 := by
  have h1 : (s.smod 64#64).toInt = s.toInt.fmod (64#64).toInt := BitVec.toInt_smod
  have h2 : (64#64 : BitVec 64).toInt = 64 := by decide
  rw [h2] at h1
  have h3 : 0 ≤ s.toInt.fmod 64 := Int.fmod_nonneg_of_pos _ (by decide)
  have h4 : s.toInt.fmod 64 < 64 := Int.fmod_lt_of_pos _ (by decide)
  have h5 := BitVec.toInt_eq_toNat_cond (s.smod 64#64)
  have h6 := (s.smod 64#64).isLt
  rw [h1] at h5
  split at h5 <;> omega
theorem zshl (s : Int64) : ((1 : Int64) <<< s).toBitVec = BitVec.twoPow 64 (s.toBitVec.smod 64#64).toNat := by
  rw [Int64.toBitVec_shiftLeft, BitVec.twoPow_eq]
  rfl
theorem zand0 (x s : Int64) : x &&& ((1 : Int64) <<< s) = 0 ↔ x.toBitVec.getLsbD (s.toBitVec.smod 64#64).toNat = false := by
  rw [← Int64.toBitVec_inj, Int64.toBitVec_and, zshl, BitVec.and_twoPow]
  have hk := zsm s.toBitVec
  cases h : x.toBitVec.getLsbD (s.toBitVec.smod 64#64).toNat with
  | false => simp
  | true =>
    simp only [if_true, reduceCtorEq, iff_false]
    intro h1
    have h2 := congrArg (fun z => BitVec.getLsbD z (s.toBitVec.smod 64#64).toNat) h1
    simp [hk] at h2
theorem zand1 (x s : Int64) : x &&& ((1 : Int64) <<< s) = if x &&& ((1 : Int64) <<< s) = 0 then 0 else (1 : Int64) <<< s := by
  by_cases h : x &&& ((1 : Int64) <<< s) = 0
  · rw [if_pos h, h]
  · rw [if_neg h]
    rw [zand0] at h
    rw [← Int64.toBitVec_inj, Int64.toBitVec_and, zshl, BitVec.and_twoPow]
    simp at h
    rw [h]
    simp
theorem zshr1 (x s : Int64) : (x >>> s) &&& 1 = 1 ↔ ¬ x &&& ((1 : Int64) <<< s) = 0 := by
  rw [zand0, ← Int64.toBitVec_inj, Int64.toBitVec_and, Int64.toBitVec_shiftRight]
  have hk := zsm s.toBitVec
  show (BitVec.sshiftRight x.toBitVec (s.toBitVec.smod 64#64).toNat) &&& 1#64 = 1#64 ↔ _
  rw [BitVec.and_one_eq_setWidth_ofBool_getLsbD, BitVec.getLsbD_sshiftRight, Nat.add_zero, if_pos hk]
  generalize x.toBitVec.getLsbD (s.toBitVec.smod 64#64).toNat = t
  cases t <;> decide
theorem zhas (x : Int64) (c : Int32) : zf_X5_has x c = if lg_cmp (x &&& zf_X1_setOf c) 0 = 0 then 0 else 1 := by
  unfold zf_X5_has zf_X1_setOf
  simp only [zlc0]
  by_cases h : x &&& ((1 : Int64) <<< (c.toInt64 &&& 63)) = 0
  · rw [if_pos h, if_neg (fun h1 => (zshr1 _ _).mp h1 h)]
  · rw [if_neg h, if_pos ((zshr1 _ _).mpr h)]
/-! points -/
theorem zpts : ∀ i, i < 32 → zf_X1_pointsOf (nI i) = zf_X5_worth (nI i) := by decide +kernel
theorem zpoints_lp (x : Int64) : ∀ (k i : Nat) (a : Int32), i + k ≤ 32 → zl_X1_pointsIn_lp x k i a = zl_X5_worthOf_lp x k i a := by
  intro k
  induction k with
  | zero => intro i a h; rfl
  | succ k ih =>
    intro i a h
    show (if lg_cmp (x &&& zf_X1_setOf (nI i)) 0 = 0 then _ else _) = zl_X5_worthOf_lp x k (i + 1) (a + (if zf_X5_has x (nI i) = 0 then (0 : Int32) else zf_X5_worth (nI i)))
    rw [zhas]
    by_cases h1 : lg_cmp (x &&& zf_X1_setOf (nI i)) 0 = 0
    · rw [if_pos h1, if_pos h1, if_pos rfl, Int32.add_zero]; exact ih _ _ (by omega)
    · rw [if_neg h1, if_neg h1, if_neg (by decide), zpts i (by omega)]; exact ih _ _ (by omega)
theorem zpoints (x : Int64) : zf_X1_pointsIn x = zf_X5_worthOf x := zpoints_lp x 32 0 0 (by omega)
/-! runs of trumps -/
theorem ztrump (i p : Int32) : zf_X1_trumpFromTop i p = zf_X5_trump i p := by
  unfold zf_X1_trumpFromTop zf_X5_trump
  rw [Int32.mul_comm p 8, Int32.mul_comm (3 - i) 8]
theorem zrun11 (v : zN) (q p : Int32) (x : Int64) : ∀ k i : Nat, zl_X1_runOfTrumps_lp11 x p k i = zl_X5_gapless_lp11 v q p x k i := by
  intro k
  induction k with
  | zero => intro i; simp only [zl_X1_runOfTrumps_lp11, zl_X5_gapless_lp11, zhas, ztrump]
  | succ k ih =>
    intro i
    simp only [zl_X1_runOfTrumps_lp11, zl_X5_gapless_lp11, zhas, ztrump, ih]
    exact ite_congr (propext eq_comm) (fun _ => rfl) (fun _ => rfl)
theorem zrun4 (v : zN) (q p : Int32) (x : Int64) : ∀ k i : Nat, zl_X1_runOfTrumps_lp4 x p k i = zl_X5_gapless_lp4 v q p x k i := by
  intro k
  induction k with
  | zero => intro i; simp only [zl_X1_runOfTrumps_lp4, zl_X5_gapless_lp4, zhas, ztrump]
  | succ k ih =>
    intro i
    simp only [zl_X1_runOfTrumps_lp4, zl_X5_gapless_lp4, zhas, ztrump, ih]
    exact ite_congr (propext eq_comm) (fun _ => rfl) (fun _ => rfl)
theorem zrun (v : zN) (q p : Int32) (x : Int64) : zf_X1_runOfTrumps x p = zk_X5_gapless_31 v q p x := by
  unfold zf_X1_runOfTrumps zk_X5_gapless_31
  by_cases h : p = 4
  · rw [if_pos h, if_pos h, zrun4 v q]
    show _ = (if zf_X5_has x (zf_X5_trump (nI 0) p) = zf_X5_has x (zf_X5_trump 0 p) then zl_X5_gapless_lp4 v q p x 3 1 else _)
    exact (if_pos (by rw [nI_0])).symm
  · rw [if_neg h, if_neg h, zrun11 v q]
    show _ = (if zf_X5_has x (zf_X5_trump (nI 0) p) = zf_X5_has x (zf_X5_trump 0 p) then zl_X5_gapless_lp11 v q p x 10 1 else _)
    exact (if_pos (by rw [nI_0])).symm
/-! bids -/
theorem zprod (x a : Int32) (N : Int32) : ∀ k i : Nat, ¬ zl_X0_isProduct_lp x a N k i = 0 → ∃ j, i ≤ j ∧ j < i + k ∧ x = a * nI j := by
  intro k
  induction k with
  | zero => intro i h; exact absurd rfl h
  | succ k ih =>
    intro i h
    by_cases h1 : x = a * nI i
    · exact ⟨i, by omega, by omega, h1⟩
    · have h2 : ¬ zl_X0_isProduct_lp x a N k (i + 1) = 0 := by
        intro h3
        apply h
        show (if x = a * nI i then (1 : Int32) else _) = 0
        rw [if_neg h1]; exact h3
      obtain ⟨j, e1, e2, e3⟩ := ih _ h2
      exact ⟨j, by omega, by omega, e3⟩
theorem zprodn {x : Int32} (a n : Nat) (h : ¬ zf_X0_isProduct x (nI a) (nI n) = 0) (hn : n < 1000) (ha : a * n ≤ 264) : ∃ j, j ≤ 264 ∧ x = nI j := by
  unfold zf_X0_isProduct at h
  rw [nI_clamp (by omega)] at h
  obtain ⟨j, e1, e2, e3⟩ := zprod _ _ _ _ _ h
  have h5 : a * j ≤ a * n := Nat.mul_le_mul_left a (by omega)
  exact ⟨a * j, by omega, by rw [e3, pk_mul]⟩
theorem zquot {x : Int32} {a n : Nat} (h0 : x - x / nI a * nI a = 0) (h : ¬ zf_X5_in (x / nI a) 2 (nI n) = 0) (hn : n < 1000) (ha : n * a ≤ 264) : ∃ j, j ≤ 264 ∧ x = nI j := by
  unfold zf_X5_in at h
  by_cases h1 : x / nI a < 2
  · rw [if_pos h1] at h; exact absurd rfl h
  · rw [if_neg h1] at h
    by_cases h2 : nI n < x / nI a
    · rw [if_pos h2] at h; exact absurd rfl h
    · have h3 : ¬ x / nI a < 0 := fun h4 => h1 (by
        rw [Int32.lt_iff_toInt_lt] at h4 ⊢
        have e0 : (0 : Int32).toInt = 0 := rfl
        have e2 : (2 : Int32).toInt = 2 := rfl
        omega)
      obtain ⟨j, hj, hx⟩ := nI_of h3
      have hjn : j ≤ n := by
        rw [hx, nI_ltI (by omega) hj] at h2
        omega
      have hx2 : x = x / nI a * nI a := by
        have h7 := Int32.sub_add_cancel x (x / nI a * nI a)
        rw [h0, Int32.zero_add] at h7
        exact h7.symm
      have h5 : j * a ≤ n * a := Nat.mul_le_mul_right a hjn
      exact ⟨j * a, by omega, by rw [hx2, hx, pk_mul]⟩
theorem zbid0 {x : Int32} (h : ¬ zf_X0_isBid x = 0) : ∃ j, j ≤ 264 ∧ x = nI j := by
  unfold zf_X0_isBid at h
  by_cases h0 : zf_X0_isNullValue x = 0
  · rw [if_pos h0] at h
    by_cases h1 : zf_X0_isProduct x 9 18 = 0
    · rw [if_pos h1] at h
      by_cases h2 : zf_X0_isProduct x 10 18 = 0
      · rw [if_pos h2] at h
        by_cases h3 : zf_X0_isProduct x 11 18 = 0
        · rw [if_pos h3] at h
          by_cases h4 : zf_X0_isProduct x 12 18 = 0
          · rw [if_pos h4] at h
            by_cases h5 : zf_X0_isProduct x 24 11 = 0
            · rw [if_pos h5] at h; exact absurd rfl h
            · exact zprodn 24 11 h5 (by decide) (by decide)
          · exact zprodn 12 18 h4 (by decide) (by decide)
        · exact zprodn 11 18 h3 (by decide) (by decide)
      · exact zprodn 10 18 h2 (by decide) (by decide)
    · exact zprodn 9 18 h1 (by decide) (by decide)
  · unfold zf_X0_isNullValue at h0
    by_cases e1 : x = 23
    · exact ⟨23, by decide, e1⟩
    · by_cases e2 : x = 35
      · exact ⟨35, by decide, e2⟩
      · by_cases e3 : x = 46
        · exact ⟨46, by decide, e3⟩
        · by_cases e4 : x = 59
          · exact ⟨59, by decide, e4⟩
          · rw [if_neg e1, if_neg e2, if_neg e3, if_neg e4] at h0; exact absurd rfl h0
theorem zqq {x : Int32} (a n : Nat) (h : ¬ (if x - x / nI a * nI a = 0 then if zf_X5_in (x / nI a) 2 (nI n) = 0 then (0 : Int32) else 1 else 0) = 0) (hn : n < 1000) (ha : n * a ≤ 264) : ∃ j, j ≤ 264 ∧ x = nI j := by
  by_cases h0 : x - x / nI a * nI a = 0
  · rw [if_pos h0] at h
    exact zquot h0 (fun h1 => h (if_pos h1)) hn ha
  · rw [if_neg h0] at h; exact absurd rfl h
theorem zbid5 {x : Int32} (h : ¬ zf_X5_isBid x = 0) : ∃ j, j ≤ 264 ∧ x = nI j := by
  unfold zf_X5_isBid at h
  by_cases e1 : x = 23
  · exact ⟨23, by decide, e1⟩
  by_cases e2 : x = 35
  · exact ⟨35, by decide, e2⟩
  by_cases e3 : x = 46
  · exact ⟨46, by decide, e3⟩
  by_cases e4 : x = 59
  · exact ⟨59, by decide, e4⟩
  rw [if_neg e1, if_neg e2, if_neg e3, if_neg e4] at h
  rw [if_pos (rfl : (0 : Int32) = 0)] at h
  by_cases h1 : (if x - x / 9 * 9 = 0 then if zf_X5_in (x / 9) 2 18 = 0 then (0 : Int32) else 1 else 0) = 0
  · rw [if_pos h1] at h
    by_cases h2 : (if x - x / 10 * 10 = 0 then if zf_X5_in (x / 10) 2 18 = 0 then (0 : Int32) else 1 else 0) = 0
    · rw [if_pos h2] at h
      by_cases h3 : (if x - x / 11 * 11 = 0 then if zf_X5_in (x / 11) 2 18 = 0 then (0 : Int32) else 1 else 0) = 0
      · rw [if_pos h3] at h
        by_cases h4 : (if x - x / 12 * 12 = 0 then if zf_X5_in (x / 12) 2 18 = 0 then (0 : Int32) else 1 else 0) = 0
        · rw [if_pos h4] at h
          exact zqq 24 11 h (by decide) (by decide)
        · exact zqq 12 18 h4 (by decide) (by decide)
      · exact zqq 11 18 h3 (by decide) (by decide)
    · exact zqq 10 18 h2 (by decide) (by decide)
  · exact zqq 9 18 h1 (by decide) (by decide)
theorem zbid_t : ∀ j, j < 265 → zf_X0_isBid (nI j) = zf_X5_isBid (nI j) := by decide +kernel
theorem zbid (x : Int32) : zf_X0_isBid x = zf_X5_isBid x := by
  by_cases h : zf_X0_isBid x = 0
  · by_cases h5 : zf_X5_isBid x = 0
    · rw [h, h5]
    · obtain ⟨j, hj, rfl⟩ := zbid5 h5
      exact zbid_t j (by omega)
  · obtain ⟨j, hj, rfl⟩ := zbid0 h
    exact zbid_t j (by omega)
