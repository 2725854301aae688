set_option maxHeartbeats 1000000
/-! a new deal -/
theorem zaftN (d : Nat) (hd : d < 1000) : zf_X4_playerAfter (nI (d % 3)) = nI ((d + 1) % 3) := by
  rw [zafter (vp_in_nI (Nat.mod_lt _ (by omega)) (by omega)), nI_1, zmodN _ (by omega)]
  congr 1
  omega
theorem zusI_I (u : zU) (f : Nat → Int32) : zuI (zusI u f) = f := rfl
theorem zusI_two (u : zU) (f g : Nat → Int32) : zusI (zusI u f) g = zusI u g := rfl
theorem zmsI_I (u : zN) (f : Nat → Int32) : zmI (zmsI u f) = f := rfl
theorem zmsI_two (u : zN) (f g : Nat → Int32) : zmsI (zmsI u f) g = zmsI u g := rfl
theorem zdealF {n d : Nat} {G : zU} {W x : zN} {p : Int32} (hn : n < 1000) (hd : d ≤ n) (hC : ∀ j, j < 3 → zuC G j = zmC W j) (hLd : ∀ j, j < 3 → zuL G j = zmL W j) (hP : ∀ j, j < 3 → zuP G j = zmP W j) (hT : ∀ j, j < 3 → zuT G j = zmT W j) (hO : ∀ j, j < 3 → zuO G j = zmO W j) (hR : ∀ j, j < 3 → zuR G j = zmR W j) (hK : zuK G = zmK W) (hZ : zuZ G = 0) (h5 : zuI G 5 = nI (d % 3)) (h1 : zmI W 1 = nI d) (hL : vp_in (zmI W 18) 3) {c : Int32} (h0 : zmI W 0 = c) : zRel n (zf_X4_startBidding (zuI1 (zuI1 (zuI1 (zuI1 (zuI1 G 10 0) 11 (-1)) 12 (-1)) 13 0) 14 0) (zf_X4_playerAfter (zuI G 5)) (zuI G 5)) (zl_X5_begins_in2 x p 0 0 W) ∧ zmI (zl_X5_begins_in2 x p 0 0 W) 0 = c ∧ zf_X5_forehand (zl_X5_begins_in2 x p 0 0 W) = nI (d % 3) := by
  have hin : vp_in (nI (d % 3)) 3 := vp_in_nI (Nat.mod_lt _ (by omega)) (by omega)
  have hfo : zf_X5_forehand W = nI (d % 3) := by unfold zf_X5_forehand; rw [h1]; exact zmodN d (by omega)
  have haf : zf_X4_playerAfter (zuI G 5) = (zf_X5_forehand W + 1) - (zf_X5_forehand W + 1) / 3 * 3 := by rw [h5, hfo]; exact zafter hin
  have hai : vp_in ((zf_X5_forehand W + 1) - (zf_X5_forehand W + 1) / 3 * 3) 3 := by rw [← haf, h5]; exact zafter_in hin
  have e : zl_X5_begins_in2 x p 0 0 W = zmsI W (upd (upd (upd (upd (upd (upd (upd (upd (upd (upd (upd (zmI W) 11 0) 12 (-1)) 13 (-1)) 14 0) 15 0) 17 0) 10 0) 9 (zf_X5_forehand W)) 8 ((zf_X5_forehand W + 1) - (zf_X5_forehand W + 1) / 3 * 3)) 2 0) 3 ((zf_X5_forehand W + 1) - (zf_X5_forehand W + 1) / 3 * 3)) := by
    have ef : ∀ f : Nat → Int32, f 1 = zmI W 1 → zf_X5_forehand (zmsI W f) = zf_X5_forehand W := fun f hf => by
      unfold zf_X5_forehand
      rw [zmsI_I, hf]
    unfold zl_X5_begins_in2
    simp only [zf_X5_turns, zmI1, zmsI_I, zmsI_two]
    rw [ef (upd (upd (upd (upd (upd (upd (upd (zmI W) 11 0) 12 (-1)) 13 (-1)) 14 0) 15 0) 17 0) 10 0) rfl]
  have eU : zf_X4_startBidding (zuI1 (zuI1 (zuI1 (zuI1 (zuI1 G 10 0) 11 (-1)) 12 (-1)) 13 0) 14 0) (zf_X4_playerAfter (zuI G 5)) (zuI G 5) = zusI G (upd (upd (upd (upd (upd (upd (upd (upd (upd (zuI G) 10 0) 11 (-1)) 12 (-1)) 13 0) 14 0) 8 (zf_X4_playerAfter (zuI G 5))) 9 (zuI G 5)) 6 0) 7 (zf_X4_playerAfter (zuI G 5))) := by
    simp only [zf_X4_startBidding, zuI1, zusI_I, zusI_two]
  rw [e, eU]
  clear e eU
  refine ⟨zRel_mk hC hLd hP hT hO hR hK hZ rfl rfl rfl rfl rfl rfl ⟨d, hd, h1, h5⟩ ?_ hai hL (show vp_in (0 : Int32) 3 from vp_in_iff.mpr (by decide)) (fun _ => rfl) (fun _ => ⟨fun _ => rfl, (fun q => absurd (show (0 : Int32) = 1 from q) (by decide)), haf, hai, Or.inl ⟨rfl, ?_, ?_, ?_⟩⟩) (fun q => q.elim (fun q => absurd (show (0 : Int32) = 2 from q) (by decide)) (fun q => q.elim (fun q => absurd (show (0 : Int32) = 3 from q) (by decide)) (fun q => absurd (show (0 : Int32) = 4 from q) (by decide)))) (Or.inl rfl) (fun q => absurd (show (0 : Int32) = 5 from q) (by decide)), h0, hfo⟩
  · show zf_X4_playerAfter (zuI G 5) = if (0 : Int32) = 6 then (-1 : Int32) else (zf_X5_forehand W + 1) - (zf_X5_forehand W + 1) / 3 * 3
    rw [if_neg (by decide), haf]
  · show vp_in (zf_X5_forehand W) 3
    rw [hfo]; exact hin
  · show zuI G 5 = zf_X5_forehand W
    rw [hfo, h5]
  · show ¬ (zf_X5_forehand W + 1) - (zf_X5_forehand W + 1) / 3 * 3 = zf_X4_playerAfter (zf_X4_playerAfter (zuI G 5))
    rw [← haf, h5]
    have h3 : d % 3 < 3 := Nat.mod_lt _ (by omega)
    generalize d % 3 = q at h3
    rcases q with _ | _ | _ | q
    · decide
    · decide
    · decide
    · omega
theorem z3 {P : Nat → Prop} (h0 : P 0) (h1 : P 1) (h2 : P 2) : ∀ j, j < 3 → P j := by
  intro j hj
  rcases j with _ | _ | _ | j
  · exact h0
  · exact h1
  · exact h2
  · omega
theorem zru_IC (u : zU) (f : Nat → Int64) : zuI (zusC u f) = zuI u := rfl
theorem zru_KC (u : zU) (f : Nat → Int64) : zuK (zusC u f) = zuK u := rfl
theorem zru_CC (u : zU) (f : Nat → Int64) : zuC (zusC u f) = f := rfl
theorem zru_LC (u : zU) (f : Nat → Int64) : zuL (zusC u f) = zuL u := rfl
theorem zru_PC (u : zU) (f : Nat → Int64) : zuP (zusC u f) = zuP u := rfl
theorem zru_TC (u : zU) (f : Nat → Int64) : zuT (zusC u f) = zuT u := rfl
theorem zru_OC (u : zU) (f : Nat → Int64) : zuO (zusC u f) = zuO u := rfl
theorem zru_RC (u : zU) (f : Nat → Int64) : zuR (zusC u f) = zuR u := rfl
theorem zru_ZC (u : zU) (f : Nat → Int64) : zuZ (zusC u f) = zuZ u := rfl
theorem zru_DC (u : zU) (f : Nat → Int64) : zuD (zusC u f) = zuD u := rfl
theorem zru_ID (u : zU) (f : Nat → Int32) : zuI (zusD u f) = zuI u := rfl
theorem zru_KD (u : zU) (f : Nat → Int32) : zuK (zusD u f) = zuK u := rfl
theorem zru_CD (u : zU) (f : Nat → Int32) : zuC (zusD u f) = zuC u := rfl
theorem zru_LD (u : zU) (f : Nat → Int32) : zuL (zusD u f) = zuL u := rfl
theorem zru_PD (u : zU) (f : Nat → Int32) : zuP (zusD u f) = zuP u := rfl
theorem zru_TD (u : zU) (f : Nat → Int32) : zuT (zusD u f) = zuT u := rfl
theorem zru_OD (u : zU) (f : Nat → Int32) : zuO (zusD u f) = zuO u := rfl
theorem zru_RD (u : zU) (f : Nat → Int32) : zuR (zusD u f) = zuR u := rfl
theorem zru_ZD (u : zU) (f : Nat → Int32) : zuZ (zusD u f) = zuZ u := rfl
theorem zru_DD (u : zU) (f : Nat → Int32) : zuD (zusD u f) = f := rfl
theorem zrm_IC (u : zN) (f : Nat → Int64) : zmI (zmsC u f) = zmI u := rfl
theorem zrm_KC (u : zN) (f : Nat → Int64) : zmK (zmsC u f) = zmK u := rfl
theorem zrm_DC (u : zN) (f : Nat → Int64) : zmD (zmsC u f) = zmD u := rfl
theorem zrm_CC (u : zN) (f : Nat → Int64) : zmC (zmsC u f) = f := rfl
theorem zrm_LC (u : zN) (f : Nat → Int64) : zmL (zmsC u f) = zmL u := rfl
theorem zrm_RC (u : zN) (f : Nat → Int64) : zmR (zmsC u f) = zmR u := rfl
theorem zrm_PC (u : zN) (f : Nat → Int64) : zmP (zmsC u f) = zmP u := rfl
theorem zrm_TC (u : zN) (f : Nat → Int64) : zmT (zmsC u f) = zmT u := rfl
theorem zrm_OC (u : zN) (f : Nat → Int64) : zmO (zmsC u f) = zmO u := rfl
theorem zrm_ID (u : zN) (f : Nat → Int32) : zmI (zmsD u f) = zmI u := rfl
theorem zrm_KD (u : zN) (f : Nat → Int32) : zmK (zmsD u f) = zmK u := rfl
theorem zrm_DD (u : zN) (f : Nat → Int32) : zmD (zmsD u f) = f := rfl
theorem zrm_CD (u : zN) (f : Nat → Int32) : zmC (zmsD u f) = zmC u := rfl
theorem zrm_LD (u : zN) (f : Nat → Int32) : zmL (zmsD u f) = zmL u := rfl
theorem zrm_RD (u : zN) (f : Nat → Int32) : zmR (zmsD u f) = zmR u := rfl
theorem zrm_PD (u : zN) (f : Nat → Int32) : zmP (zmsD u f) = zmP u := rfl
theorem zrm_TD (u : zN) (f : Nat → Int32) : zmT (zmsD u f) = zmT u := rfl
theorem zrm_OD (u : zN) (f : Nat → Int32) : zmO (zmsD u f) = zmO u := rfl
/-! the class clears the table -/
theorem zsd_I (u : zU) (j : Nat) : zuI (zf_X2_startDeal u j) = zuI u := by
  unfold zf_X2_startDeal
  rw [zqu_IT, zqu_IP, zqu_IL, zqu_IC]
theorem zsd_K (u : zU) (j : Nat) : zuK (zf_X2_startDeal u j) = zuK u := by
  unfold zf_X2_startDeal
  rw [zqu_KT, zqu_KP, zqu_KL, zqu_KC]
theorem zsd_O (u : zU) (j : Nat) : zuO (zf_X2_startDeal u j) = zuO u := by
  unfold zf_X2_startDeal
  rw [zqu_OT, zqu_OP, zqu_OL, zqu_OC]
theorem zsd_R (u : zU) (j : Nat) : zuR (zf_X2_startDeal u j) = zuR u := by
  unfold zf_X2_startDeal
  rw [zqu_RT, zqu_RP, zqu_RL, zqu_RC]
theorem zsd_C (u : zU) (j i : Nat) : zuC (zf_X2_startDeal u j) i = if i = j then 0 else zuC u i := by
  unfold zf_X2_startDeal
  rw [zqu_CT, zqu_CP, zqu_CL, zqu_CC]
theorem zsd_L (u : zU) (j i : Nat) : zuL (zf_X2_startDeal u j) i = if i = j then 0 else zuL u i := by
  unfold zf_X2_startDeal
  rw [zqu_LT, zqu_LP, zqu_LL, zqu_LC]
theorem zsd_P (u : zU) (j i : Nat) : zuP (zf_X2_startDeal u j) i = if i = j then 0 else zuP u i := by
  unfold zf_X2_startDeal
  rw [zqu_PT, zqu_PP, zqu_PL, zqu_PC]
theorem zsd_T (u : zU) (j i : Nat) : zuT (zf_X2_startDeal u j) i = if i = j then 0 else zuT u i := by
  unfold zf_X2_startDeal
  rw [zqu_TT, zqu_TP, zqu_TL, zqu_TC]
def zcl (u : zU) : zU := zf_X3_clear (zf_X2_startDeal (zf_X2_startDeal (zf_X2_startDeal u 0) 1) 2)
theorem zcl_I (u : zU) : zuI (zcl u) = zuI u := by
  unfold zcl zf_X3_clear
  rw [zqu_IZ, zsd_I, zsd_I, zsd_I]
theorem zcl_O (u : zU) : zuO (zcl u) = zuO u := by
  unfold zcl zf_X3_clear
  rw [zqu_OZ, zsd_O, zsd_O, zsd_O]
theorem zcl_R (u : zU) : zuR (zcl u) = zuR u := by
  unfold zcl zf_X3_clear
  rw [zqu_RZ, zsd_R, zsd_R, zsd_R]
theorem zcl_Z (u : zU) : zuZ (zcl u) = 0 := by
  unfold zcl zf_X3_clear
  rw [zqu_ZZ]
theorem z012 {A : Type} {x y : A} : ∀ j, j < 3 → (if j = 2 then x else if j = 1 then x else if j = 0 then x else y) = x := by
  intro j hj
  by_cases h2 : j = 2
  · rw [if_pos h2]
  · rw [if_neg h2]
    by_cases h1 : j = 1
    · rw [if_pos h1]
    · rw [if_neg h1, if_pos (by omega)]
theorem zcl_C (u : zU) : ∀ j, j < 3 → zuC (zcl u) j = 0 := by
  intro j hj
  unfold zcl zf_X3_clear
  rw [zqu_CZ, zsd_C, zsd_C, zsd_C]
  exact z012 j hj
theorem zcl_L (u : zU) : ∀ j, j < 3 → zuL (zcl u) j = 0 := by
  intro j hj
  unfold zcl zf_X3_clear
  rw [zqu_LZ, zsd_L, zsd_L, zsd_L]
  exact z012 j hj
theorem zcl_P (u : zU) : ∀ j, j < 3 → zuP (zcl u) j = 0 := by
  intro j hj
  unfold zcl zf_X3_clear
  rw [zqu_PZ, zsd_P, zsd_P, zsd_P]
  exact z012 j hj
theorem zcl_T (u : zU) : ∀ j, j < 3 → zuT (zcl u) j = 0 := by
  intro j hj
  unfold zcl zf_X3_clear
  rw [zqu_TZ, zsd_T, zsd_T, zsd_T]
  exact z012 j hj
/-! the class gives the cards -/
theorem zl3_0 (f : Nat → Int64) (a b c : Int64) : vp_updL (vp_updL (vp_updL f 0 a) 1 b) 2 c 0 = a := rfl
theorem zl3_1 (f : Nat → Int64) (a b c : Int64) : vp_updL (vp_updL (vp_updL f 0 a) 1 b) 2 c 1 = b := rfl
theorem zl3_2 (f : Nat → Int64) (a b c : Int64) : vp_updL (vp_updL (vp_updL f 0 a) 1 b) 2 c 2 = c := rfl
theorem zgv_I (x : zU) : zuI (zf_X4_giveCards x) = zuI x := by rw [zgive, zqu_IK, zru_IC]
theorem zgv_L (x : zU) : zuL (zf_X4_giveCards x) = zuL x := by rw [zgive, zqu_LK, zru_LC]
theorem zgv_P (x : zU) : zuP (zf_X4_giveCards x) = zuP x := by rw [zgive, zqu_PK, zru_PC]
theorem zgv_T (x : zU) : zuT (zf_X4_giveCards x) = zuT x := by rw [zgive, zqu_TK, zru_TC]
theorem zgv_O (x : zU) : zuO (zf_X4_giveCards x) = zuO x := by rw [zgive, zqu_OK, zru_OC]
theorem zgv_R (x : zU) : zuR (zf_X4_giveCards x) = zuR x := by rw [zgive, zqu_RK, zru_RC]
theorem zgv_Z (x : zU) : zuZ (zf_X4_giveCards x) = zuZ x := by rw [zgive, zqu_ZK, zru_ZC]
theorem zgv_K (x : zU) : zuK (zf_X4_giveCards x) = ((0 ||| zf_X1_setOf (zuD x 30)) ||| zf_X1_setOf (zuD x 31)) := by rw [zgive, zqu_KK]
theorem zgv_C0 (x : zU) : zuC (zf_X4_giveCards x) 0 = zor (zuD x) 10 0 (zuC x 0) := by rw [zgive, zqu_CK, zru_CC, zl3_0]
theorem zgv_C1 (x : zU) : zuC (zf_X4_giveCards x) 1 = zor (zuD x) 10 10 (zuC x 1) := by rw [zgive, zqu_CK, zru_CC, zl3_1]
theorem zgv_C2 (x : zU) : zuC (zf_X4_giveCards x) 2 = zor (zuD x) 10 20 (zuC x 2) := by rw [zgive, zqu_CK, zru_CC, zl3_2]
/-! the model gives them -/
def zgm (w : zN) (j i : Nat) : zN := zmsC (zrs w j) (vp_updL (zmC (zrs w j)) j (zor (zmD (zrs w j)) 10 i (zmC (zrs w j) j)))
theorem zgm_I (w : zN) (j i : Nat) : zmI (zgm w j i) = zmI w := by
  unfold zgm
  unfold zrs
  rw [zrm_IC, zqm_IT, zqm_IP, zqm_IL, zqm_IC]
theorem zgm_K (w : zN) (j i : Nat) : zmK (zgm w j i) = zmK w := by
  unfold zgm
  unfold zrs
  rw [zrm_KC, zqm_KT, zqm_KP, zqm_KL, zqm_KC]
theorem zgm_D (w : zN) (j i : Nat) : zmD (zgm w j i) = zmD w := by
  unfold zgm
  unfold zrs
  rw [zrm_DC, zqm_DT, zqm_DP, zqm_DL, zqm_DC]
theorem zgm_R (w : zN) (j i : Nat) : zmR (zgm w j i) = zmR w := by
  unfold zgm
  unfold zrs
  rw [zrm_RC, zqm_RT, zqm_RP, zqm_RL, zqm_RC]
theorem zgm_O (w : zN) (j i : Nat) : zmO (zgm w j i) = zmO w := by
  unfold zgm
  unfold zrs
  rw [zrm_OC, zqm_OT, zqm_OP, zqm_OL, zqm_OC]
theorem zrs_C (w : zN) (j i : Nat) : zmC (zrs w j) i = if i = j then 0 else zmC w i := by
  unfold zrs
  rw [zqm_CT, zqm_CP, zqm_CL, zqm_CC]
theorem zrs_D (w : zN) (j : Nat) : zmD (zrs w j) = zmD w := by
  unfold zrs
  rw [zqm_DT, zqm_DP, zqm_DL, zqm_DC]
theorem zlu_s (f : Nat → Int64) (j : Nat) (x : Int64) : vp_updL f j x j = x := if_pos rfl
theorem zlu_n (f : Nat → Int64) (j q : Nat) (x : Int64) (h : ¬ q = j) : vp_updL f j x q = f q := if_neg h
theorem zgm_C (w : zN) (j i : Nat) : zmC (zgm w j i) j = zor (zmD w) 10 i 0 := by
  unfold zgm
  rw [zrm_CC, zlu_s, zrs_C, zrs_D, if_pos rfl]
theorem zgm_Cn (w : zN) (j i q : Nat) (h : ¬ q = j) : zmC (zgm w j i) q = zmC w q := by
  unfold zgm
  rw [zrm_CC, zlu_n _ _ _ _ h, zrs_C, if_neg h]
theorem zgm_L (w : zN) (j i q : Nat) : zmL (zgm w j i) q = if q = j then 0 else zmL w q := by
  unfold zgm
  unfold zrs
  rw [zrm_LC, zqm_LT, zqm_LP, zqm_LL, zqm_LC]
theorem zgm_P (w : zN) (j i q : Nat) : zmP (zgm w j i) q = if q = j then 0 else zmP w q := by
  unfold zgm
  unfold zrs
  rw [zrm_PC, zqm_PT, zqm_PP, zqm_PL, zqm_PC]
theorem zgm_T (w : zN) (j i q : Nat) : zmT (zgm w j i) q = if q = j then 0 else zmT w q := by
  unfold zgm
  unfold zrs
  rw [zrm_TC, zqm_TT, zqm_TP, zqm_TL, zqm_TC]
def zdY (v : zN) (p0 : Int32) : zN := zmsK (zf_X5_shuffles v p0) ((1 <<< ((zmD (zf_X5_shuffles v p0) 30).toInt64 &&& 63)) ||| (1 <<< ((zmD (zf_X5_shuffles v p0) 31).toInt64 &&& 63)))
def zdW (v : zN) (p0 : Int32) : zN := zgm (zgm (zgm (zdY v p0) 0 0) 1 10) 2 20
theorem zbg0 (v : zN) (p : Int32) (w : zN) : zl_X5_begins_in0 v p 10 0 (zrs w 0) = zl_X5_begins_in1 v p 10 10 (zrs (zgm w 0 0) 1) := zin0 v p 10 0 (zrs w 0)
theorem zbg1 (v : zN) (p : Int32) (w : zN) : zl_X5_begins_in1 v p 10 10 (zrs w 1) = zl_X5_begins_in2 v p 10 20 (zrs (zgm w 1 10) 2) := zin1 v p 10 10 (zrs w 1)
theorem zbg2 (v : zN) (p : Int32) (w : zN) : zl_X5_begins_in2 v p 10 20 (zrs w 2) = zl_X5_begins_in2 v p 0 0 (zgm w 2 20) := zin2 v p 10 20 (zrs w 2)
theorem zbg (v : zN) (p : Int32) : zf_X5_begins v p = zl_X5_begins_in2 v p 0 0 (zdW v p) :=
  (show zf_X5_begins v p = zl_X5_begins_in0 v p 10 0 (zrs (zdY v p) 0) from rfl).trans ((zbg0 v p (zdY v p)).trans ((zbg1 v p (zgm (zdY v p) 0 0)).trans (zbg2 v p (zgm (zgm (zdY v p) 0 0) 1 10))))
def zdG (u : zU) (p : Int32) : zU := zf_X4_giveCards (zf_X4_shuffle (zcl u) p)
theorem zsd_eq (u : zU) (p : Int32) : zf_X4_startDeal u p = zf_X4_startBidding (zuI1 (zuI1 (zuI1 (zuI1 (zuI1 (zdG u p) 10 0) 11 (-1)) 12 (-1)) 13 0) 14 0) (zf_X4_playerAfter (zuI (zdG u p) 5)) (zuI (zdG u p) 5) := rfl
theorem zdealR {n : Nat} {u : zU} {v : zN} {s d : Nat} (hs : s < 2147483648) (hn : n < 1000) (hO : ∀ j, j < 3 → zuO u j = zmO v j) (hR : ∀ j, j < 3 → zuR u j = zmR v j) (hd : d ≤ n) (h1 : zmI v 1 = nI d) (h5 : zuI u 5 = nI (d % 3)) (hL : vp_in (zmI v 18) 3) : zRel n (zf_X4_startDeal u (nI s)) (zf_X5_begins v (nI s)) ∧ zmI (zf_X5_begins v (nI s)) 0 = zmI v 0 ∧ zf_X5_forehand (zf_X5_begins v (nI s)) = nI (d % 3) := by
  obtain ⟨hD, hxu, hxv⟩ := zshuf (zcl u) v hs
  unfold zuX at hxu
  unfold zmX at hxv
  have xI : zuI (zf_X4_shuffle (zcl u) (nI s)) = zuI u := ((congrArg zuI hxu).trans (zru_ID _ _)).trans (zcl_I u)
  have xO : zuO (zf_X4_shuffle (zcl u) (nI s)) = zuO u := ((congrArg zuO hxu).trans (zru_OD _ _)).trans (zcl_O u)
  have xR : zuR (zf_X4_shuffle (zcl u) (nI s)) = zuR u := ((congrArg zuR hxu).trans (zru_RD _ _)).trans (zcl_R u)
  have xZ : zuZ (zf_X4_shuffle (zcl u) (nI s)) = 0 := ((congrArg zuZ hxu).trans (zru_ZD _ _)).trans (zcl_Z u)
  have xC : zuC (zf_X4_shuffle (zcl u) (nI s)) = zuC (zcl u) := (congrArg zuC hxu).trans (zru_CD _ _)
  have xL : zuL (zf_X4_shuffle (zcl u) (nI s)) = zuL (zcl u) := (congrArg zuL hxu).trans (zru_LD _ _)
  have xP : zuP (zf_X4_shuffle (zcl u) (nI s)) = zuP (zcl u) := (congrArg zuP hxu).trans (zru_PD _ _)
  have xT : zuT (zf_X4_shuffle (zcl u) (nI s)) = zuT (zcl u) := (congrArg zuT hxu).trans (zru_TD _ _)
  have yI : zmI (zdY v (nI s)) = zmI v := (zqm_IK _ _).trans ((congrArg zmI hxv).trans (zrm_ID _ _))
  have yO : zmO (zdY v (nI s)) = zmO v := (zqm_OK _ _).trans ((congrArg zmO hxv).trans (zrm_OD _ _))
  have yR : zmR (zdY v (nI s)) = zmR v := (zqm_RK _ _).trans ((congrArg zmR hxv).trans (zrm_RD _ _))
  have yD : zmD (zdY v (nI s)) = zmD (zf_X5_shuffles v (nI s)) := zqm_DK _ _
  have hz : ∀ i, i + 10 ≤ 32 → zor (zuD (zf_X4_shuffle (zcl u) (nI s))) 10 i 0 = zor (zmD (zf_X5_shuffles v (nI s))) 10 i 0 := fun i hi => zor_congr _ _ 10 i 0 (fun j _ q => hD j (by omega))
  have WI : zmI (zdW v (nI s)) = zmI v := by unfold zdW; rw [zgm_I, zgm_I, zgm_I, yI]
  rw [zsd_eq, zbg, ← show zmI (zdW v (nI s)) 0 = zmI v 0 by rw [WI]]
  refine zdealF (G := zdG u (nI s)) (W := zdW v (nI s)) hn hd ?_ ?_ ?_ ?_ ?_ ?_ ?_ ?_ ?_ ?_ ?_ rfl
  · refine z3 ?_ ?_ ?_
    · unfold zdG zdW
      rw [zgv_C0, xC, zcl_C u 0 (by omega), hz 0 (by omega), zgm_Cn _ 2 20 0 (by omega), zgm_Cn _ 1 10 0 (by omega), zgm_C, yD]
    · unfold zdG zdW
      rw [zgv_C1, xC, zcl_C u 1 (by omega), hz 10 (by omega), zgm_Cn _ 2 20 1 (by omega), zgm_C, zgm_D, yD]
    · unfold zdG zdW
      rw [zgv_C2, xC, zcl_C u 2 (by omega), hz 20 (by omega), zgm_C, zgm_D, zgm_D, yD]
  · intro j hj
    unfold zdG zdW
    rw [zgv_L, xL, zcl_L u j hj, zgm_L, zgm_L, zgm_L]
    exact (z012 j hj).symm
  · intro j hj
    unfold zdG zdW
    rw [zgv_P, xP, zcl_P u j hj, zgm_P, zgm_P, zgm_P]
    exact (z012 j hj).symm
  · intro j hj
    unfold zdG zdW
    rw [zgv_T, xT, zcl_T u j hj, zgm_T, zgm_T, zgm_T]
    exact (z012 j hj).symm
  · intro j hj
    unfold zdG zdW
    rw [zgv_O, xO, zgm_O, zgm_O, zgm_O, yO]
    exact hO j hj
  · intro j hj
    unfold zdG zdW
    rw [zgv_R, xR, zgm_R, zgm_R, zgm_R, yR]
    exact hR j hj
  · unfold zdG zdW
    rw [zgv_K, zgm_K, zgm_K, zgm_K, hD 30 (by omega), hD 31 (by omega), zz_or]
    unfold zdY zf_X1_setOf
    rw [zqm_KK]
  · unfold zdG
    rw [zgv_Z, xZ]
  · unfold zdG
    rw [zgv_I, xI]
    exact h5
  · rw [WI]
    exact h1
  · rw [WI]
    exact hL
theorem zSo_deal {n : Nat} {w : zU × (Nat → Int64)} {v : zN} {p0 : Int32} (h : zRel n w.1 v) (hn : n < 600) : (zw_deal w p0).1 = zmI (zf_X5_deal v p0).2 0 ∧ ((zw_deal w p0).1 = 0 → (zw_deal w p0).2.2 0 = (zf_X5_deal v p0).1.toInt64) ∧ zRel (n + 1) (zw_deal w p0).2.1 (zf_X5_deal v p0).2 := by
  by_cases h0 : 0 ≤ p0
  · have h0' : ¬ p0 < 0 := fun q => by
      rw [Int32.lt_iff_toInt_lt] at q
      rw [Int32.le_iff_toInt_le] at h0
      omega
    obtain ⟨s, hs, rfl⟩ := nI_of h0'
    obtain ⟨d, d1, d2, d3⟩ := zRel_fh h
    obtain ⟨r1, r2, r3⟩ := zdealR (n := n + 1) (u := zuI1 w.1 5 (zf_X4_playerAfter (zuI w.1 5))) (v := zmI1 (zmI1 v 0 0) 1 ((zmI v 1) + 1)) (s := s) (d := d + 1) hs (by omega) (zRel_O (n := n) (u := w.1) (v := v) h) (zRel_R (n := n) (u := w.1) (v := v) h) (by omega) (by show zmI v 1 + 1 = _; rw [d2]; exact nI_1 d) (by show zf_X4_playerAfter (zuI w.1 5) = _; rw [d3]; exact zaftN d (by omega)) (zRel_L (n := n) (u := w.1) (v := v) h)
    have hf : zf_X4_deal w.1 (nI s) = (0, nI ((d + 1) % 3), zf_X4_startDeal (zuI1 w.1 5 (zf_X4_playerAfter (zuI w.1 5))) (nI s)) := by
      unfold zf_X4_deal
      rw [if_pos h0, show zuI (zf_X4_startDeal (zuI1 w.1 5 (zf_X4_playerAfter (zuI w.1 5))) (nI s)) 5 = nI ((d + 1) % 3) by
        obtain ⟨d', q1, q2, q3⟩ := zRel_fh r1
        rw [q3]
        have q4 : zf_X5_forehand (zf_X5_begins (zmI1 (zmI1 v 0 0) 1 ((zmI v 1) + 1)) (nI s)) = nI (d' % 3) := by unfold zf_X5_forehand; rw [q2]; exact zmodN d' (by omega)
        rw [← q4, r3]]
    refine zOk (u' := zf_X4_startDeal (zuI1 w.1 5 (zf_X4_playerAfter (zuI w.1 5))) (nI s)) (f := w.2) (v' := zf_X5_begins (zmI1 (zmI1 v 0 0) 1 ((zmI v 1) + 1)) (nI s)) (x := nI ((d + 1) % 3)) (by unfold zw_deal; rw [hf]; rfl) ?_ r2 r1
    unfold zf_X5_deal
    rw [if_pos h0, r3]
  · refine zErr (k := 1) (x := 0) h (by decide) ?_ ?_
    · unfold zw_deal zf_X4_deal
      rw [if_neg h0]; rfl
    · unfold zf_X5_deal
      rw [if_neg h0]
theorem zRel_init : zRel 0 (zf_X4_startDeal (zuI1 zu0 5 0) 0) (zf_X5_begins zv0 0) :=
  (zdealR (n := 0) (u := zuI1 zu0 5 0) (v := zv0) (s := 0) (d := 0) (by omega) (by omega) (fun _ _ => rfl) (fun _ _ => rfl) (Nat.le_refl 0) rfl rfl (show vp_in (0 : Int32) 3 from vp_in_iff.mpr (by decide))).1
