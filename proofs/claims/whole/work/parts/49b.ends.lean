set_option maxHeartbeats 1000000
/-! the end of a deal -/
theorem zVr_O {u : zU} {z : zN} (k : Nat) (x : Int32) (h : zVr u z) : zVr u (zmO1 z k x) := by
  unfold zVr at h ⊢
  rw [zqm_CO, zqm_LO, zqm_PO, zqm_TO, zqm_KO, zqm_IO]
  exact h
theorem zaimV {u : zU} {z : zN} (h : zVr u z) {j : Nat} (hj : j < 3) (hd : zmI z 12 = nI j) : zf_X4_isAimReached u = if (zmI z 13) = 5 then (if (zmT z ((zmI z 12).toNatClampNeg)) = 0 then (1 : Int32) else 0) else (if (zmI z 14) ≤ 1 then (if (zmI z 14) = 1 then (if (zmP z ((zmI z 12).toNatClampNeg)) < 90 then (0 : Int32) else 1) else (if (zmP z ((zmI z 12).toNatClampNeg)) < 61 then (0 : Int32) else 1)) else (if (zmT z ((zmI z 12).toNatClampNeg)) = 10 then (1 : Int32) else 0)) := by
  obtain ⟨hC, hL, hP, hT, hK, hl, hde, hco, hex, hhg⟩ := h
  unfold zf_X4_isAimReached
  rw [hde, hd, zseat u (vp_in_nI hj (by omega)), nI_clamp (n := j) (by omega), hP j hj, hT j hj, hco, hex, zite_iff (zlt2 (zmI z 14))]
theorem zwonV {u : zU} {z : zN} (h : zVr u z) {j : Nat} (hj : j < 3) (hd : zmI z 12 = nI j) {A : Type} (x y : A) : (if zf_X5_worthOfGame z < zmI z 11 then x else if zf_X4_isAimReached u = 0 then x else y) = if zf_X5_isWon z = 0 then x else y := by
  have ha := zaimV h hj hd
  unfold zf_X5_isWon
  rw [← ha]
  by_cases hl : zmI z 11 ≤ zf_X5_worthOfGame z
  · rw [if_pos hl, if_neg (fun q => by rw [Int32.lt_iff_toInt_lt] at q; rw [Int32.le_iff_toInt_le] at hl; omega)]
  · rw [if_neg hl, if_pos (by rw [Int32.le_iff_toInt_le] at hl; rw [Int32.lt_iff_toInt_lt]; omega), if_pos rfl]
theorem zsgV {u : zU} {z z' : zN} (h : zVr u z) (h' : zVr u z') {j : Nat} (hj : j < 3) (hd : zmI z 12 = nI j) (hd' : zmI z' 12 = nI j) {c : Nat} (hc : c < 6) (h13 : zmI z 13 = nI c) : zf_X4_scoreGame u = zuO1 u j ((zuO u j) + (if zf_X5_isWon z' = 0 then (-2) * zf_X5_valueOf z else zf_X5_valueOf z)) := by
  have hv := zvalV h hj hd hc h13
  have hw := zwogV h' hj hd'
  have hq := zwonV h' hj hd' ((-2) * zf_X5_valueOf z) (zf_X5_valueOf z)
  have hs : zf_X4_seat u (zuI u 11) = j := by rw [h.2.2.2.2.2.2.1, hd, zseat u (vp_in_nI hj (by omega)), nI_clamp (by omega)]
  unfold zf_X4_scoreGame
  rw [hv, hw, h'.2.2.2.2.2.1, hs, ← hq]
  by_cases a : zf_X5_worthOfGame z' < zmI z' 11
  · rw [if_pos a, if_pos a]
  · rw [if_neg a, if_neg a]
    by_cases b : zf_X4_isAimReached u = 0
    · rw [if_pos b, if_pos b]
    · rw [if_neg b, if_neg b]
theorem zeVr {n : Nat} {u : zU} {v : zN} (h : zRel n u v) (w : Nat) : zVr (zuI1 (zuI1 u 6 6) 7 (-1)) (zeV v w 0) := by
  refine ⟨fun j hj => ?_, fun j hj => ?_, fun j hj => ?_, fun j hj => ?_, ?_, ?_, ?_, ?_, ?_, ?_⟩
  · rw [zqu_CI, zqu_CI, zeV_C]; exact zRel_C h j hj
  · rw [zqu_LI, zqu_LI, zeV_L]; exact zRel_Ld h j hj
  · rw [zqu_PI, zqu_PI, zeV_P]
    by_cases q : j = w
    · rw [if_pos q, Int32.add_zero, ← q]; exact zRel_P h j hj
    · rw [if_neg q]; exact zRel_P h j hj
  · rw [zqu_TI, zqu_TI, zeV_T]; exact zRel_Tr h j hj
  · rw [zqu_KI, zqu_KI, zeV_K]; exact zRel_K h
  · rw [zII _ 7 _ 10 (by omega), zII _ 6 _ 10 (by omega), zeV_I _ _ _ 11 (by omega)]; exact zRel_lb h
  · rw [zII _ 7 _ 11 (by omega), zII _ 6 _ 11 (by omega), zeV_I _ _ _ 12 (by omega)]; exact zRel_de h
  · rw [zII _ 7 _ 12 (by omega), zII _ 6 _ 12 (by omega), zeV_I _ _ _ 13 (by omega)]; exact zRel_co h
  · rw [zII _ 7 _ 13 (by omega), zII _ 6 _ 13 (by omega), zeV_I _ _ _ 14 (by omega)]; exact zRel_ex h
  · rw [zII _ 7 _ 14 (by omega), zII _ 6 _ 14 (by omega), zeV_I _ _ _ 15 (by omega)]; exact zRel_hg h
/-- a relation at the end of a deal: from what both sides hold -/
theorem zover {n : Nat} {u U : zU} {v V : zN} (h : zRel n u v) (hC : zuC U = zuC u) (hL : zuL U = zuL u) (hT : zuT U = zuT u) (hR : zuR U = zuR u) (hK : zuK U = zuK u) (hZ : zuZ U = zuZ u) (hI : ∀ i, ¬ i = 7 → ¬ i = 6 → zuI U i = zuI u i) (h6 : zuI U 6 = 6) (h7 : zuI U 7 = -1) (gC : zmC V = zmC v) (gL : zmL V = zmL v) (gT : zmT V = zmT v) (gR : zmR V = zmR v) (gK : zmK V = zmK v) (gI : ∀ i, ¬ i = 2 → zmI V i = zmI v i) (g2 : zmI V 2 = 6) (h17 : zmI v 17 = 0) (hP : ∀ j, j < 3 → zuP U j = zmP V j) (hO : ∀ j, j < 3 → zuO U j = zmO V j) : zRel n U V := by
  refine zRel_mk (fun j hj => ?_) (fun j hj => ?_) hP (fun j hj => ?_) hO (fun j hj => ?_) ?_ ?_ ?_ ?_ ?_ ?_ ?_ ?_ ?_ ?_ ?_ ?_ ?_ ?_ ?_ ?_ ?_ ?_
  · rw [hC, gC]; exact zRel_C h j hj
  · rw [hL, gL]; exact zRel_Ld h j hj
  · rw [hT, gT]; exact zRel_Tr h j hj
  · rw [hR, gR]; exact zRel_R h j hj
  · rw [hK, gK]; exact zRel_K h
  · rw [hZ, gI 17 (by omega)]; exact zRel_Z h
  · rw [h6, g2]
  · rw [hI 10 (by omega) (by omega), gI 11 (by omega)]; exact zRel_lb h
  · rw [hI 11 (by omega) (by omega), gI 12 (by omega)]; exact zRel_de h
  · rw [hI 12 (by omega) (by omega), gI 13 (by omega)]; exact zRel_co h
  · rw [hI 13 (by omega) (by omega), gI 14 (by omega)]; exact zRel_ex h
  · rw [hI 14 (by omega) (by omega), gI 15 (by omega)]; exact zRel_hg h
  · rw [hI 5 (by omega) (by omega), gI 1 (by omega)]; exact zRel_fh h
  · rw [h7, g2, if_pos rfl]
  · rw [gI 3 (by omega)]; exact zRel_T h
  · rw [gI 18 (by omega)]; exact zRel_L h
  · rw [gI 17 (by omega)]; exact zRel_I h
  · rw [gI 17 (by omega)]; exact fun _ => h17
  · rw [g2]; exact fun q => q.elim (fun q => absurd q (by decide)) (fun q => absurd q (by decide))
  · rw [g2]; exact fun q => q.elim (fun q => absurd q (by decide)) (fun q => q.elim (fun q => absurd q (by decide)) (fun q => absurd q (by decide)))
  · rw [gI 13 (by omega), gI 12 (by omega)]; exact zRel_cn h
  · rw [g2]; exact fun q => absurd q (by decide)
theorem zendR6 {n w : Nat} {u : zU} {v : zN} (h : zRel n u v) (hw : w < 3) (h18 : zmI v 18 = nI w) (h17 : zmI v 17 = 0) (h6 : zmI v 13 = 6) : zRel n (zf_X4_endDeal u (nI w)) (zf_X5_ends v) ∧ zmI (zf_X5_ends v) 0 = zmI v 0 := by
  have eU : zf_X4_endDeal u (nI w) = zf_X4_scoreRamsch (zeU u w (zf_X5_worthOf (zmK v))) := by
    unfold zf_X4_endDeal
    rw [zRel_co h, if_pos h6, zseat _ (vp_in_nI hw (by omega)), nI_clamp (by omega), zRel_K h, zpoints]
    unfold zeU
    rfl
  have hP : ∀ j, j < 3 → zuP (zeU u w (zf_X5_worthOf (zmK v))) j = zmP (zeV v w (zf_X5_worthOf (zmK v))) j := by
    intro j hj
    rw [zeU_P, zeV_P, zRel_P h j hj, zRel_P h w hw]
  have h13 : zmI (zeV v w (zf_X5_worthOf (zmK v))) 13 = 6 := by rw [zeV_I _ _ _ _ (by omega)]; exact h6
  have eV : zf_X5_ends v = zk_X5_ends_43 v (zf_X5_valueOf (zeV v w (zf_X5_worthOf (zmK v)))) (zeV v w (zf_X5_worthOf (zmK v))) := by
    unfold zf_X5_ends
    rw [h18, if_pos h6, nI_clamp (by omega)]
    unfold zeV
    rfl
  have ev : zf_X5_valueOf (zeV v w (zf_X5_worthOf (zmK v))) = zf_X5_most (zeV v w (zf_X5_worthOf (zmK v))) := by
    unfold zf_X5_valueOf
    rw [if_pos h13]
  have hm : zf_X4_mostPoints (zeU u w (zf_X5_worthOf (zmK v))) = zf_X5_most (zeV v w (zf_X5_worthOf (zmK v))) := zmostV hP
  rw [eU, eV, ev]
  unfold zk_X5_ends_43
  rw [if_pos h13, if_pos h13, if_pos h13, if_pos h13]
  constructor
  · refine zover h ?_ ?_ ?_ ?_ ?_ ?_ ?_ ?_ ?_ ?_ ?_ ?_ ?_ ?_ ?_ ?_ h17 ?_ ?_
    · rw [zsr_C, zeU_C]
    · rw [zsr_L, zeU_L]
    · rw [zsr_T, zeU_T]
    · rw [zsr_R, zeU_R]
    · rw [zsr_K, zeU_K]
    · rw [zsr_Z, zeU_Z]
    · intro i i7 i6; rw [zsr_I, zeU_I _ _ _ _ i7 i6]
    · rw [zsr_I, zeU_6]
    · rw [zsr_I, zeU_7]
    · rw [zqm_CO, zqm_CO, zqm_CO, zeV_C]
    · rw [zqm_LO, zqm_LO, zqm_LO, zeV_L]
    · rw [zqm_TO, zqm_TO, zqm_TO, zeV_T]
    · rw [zqm_RO, zqm_RO, zqm_RO, zeV_R]
    · rw [zqm_KO, zqm_KO, zqm_KO, zeV_K]
    · intro i i2; rw [zqm_IO, zqm_IO, zqm_IO, zeV_I _ _ _ _ i2]
    · rw [zqm_IO, zqm_IO, zqm_IO, zeV_2]
    · intro j hj; rw [zsr_P, zqm_PO, zqm_PO, zqm_PO]; exact hP j hj
    · intro j hj
      rw [zsr_O _ j hj, hm, hP j hj, zqm_OO, zqm_OO, zqm_OO, zeU_O, zRel_O h j hj]
      by_cases h2 : j = 2
      · subst h2
        rw [if_pos rfl, zeV_O]
      · rw [if_neg h2]
        by_cases h1 : j = 1
        · subst h1
          rw [if_pos rfl, zeV_O]
        · obtain rfl : j = 0 := by omega
          rw [if_neg h1, if_pos rfl, zeV_O]
  · rw [zqm_IO, zqm_IO, zqm_IO, zeV_I _ _ _ _ (by omega)]
/-- the model's totals, each less nothing -/
def zz3 (z : zN) : zN := zmO1 (zmO1 (zmO1 z 0 ((zmO z 0) - 0)) 1 ((zmO z 1) - 0)) 2 ((zmO z 2) - 0)
theorem zz3_O (z : zN) : zmO (zz3 z) = zmO z := by
  funext j
  unfold zz3
  rw [zqm_OO, zqm_OO, zqm_OO, Int32.sub_zero, Int32.sub_zero, Int32.sub_zero]
  by_cases h2 : j = 2
  · rw [if_pos h2, h2]
  · rw [if_neg h2]
    by_cases h1 : j = 1
    · rw [if_pos h1, h1]
    · rw [if_neg h1]
      by_cases h0 : j = 0
      · rw [if_pos h0, h0]
      · rw [if_neg h0]
theorem zz3_I (z : zN) : zmI (zz3 z) = zmI z := by
  unfold zz3
  rw [zqm_IO, zqm_IO, zqm_IO]
theorem zz3_C (z : zN) : zmC (zz3 z) = zmC z := by
  unfold zz3
  rw [zqm_CO, zqm_CO, zqm_CO]
theorem zz3_L (z : zN) : zmL (zz3 z) = zmL z := by
  unfold zz3
  rw [zqm_LO, zqm_LO, zqm_LO]
theorem zz3_T (z : zN) : zmT (zz3 z) = zmT z := by
  unfold zz3
  rw [zqm_TO, zqm_TO, zqm_TO]
theorem zz3_R (z : zN) : zmR (zz3 z) = zmR z := by
  unfold zz3
  rw [zqm_RO, zqm_RO, zqm_RO]
theorem zz3_K (z : zN) : zmK (zz3 z) = zmK z := by
  unfold zz3
  rw [zqm_KO, zqm_KO, zqm_KO]
theorem zz3_P (z : zN) : zmP (zz3 z) = zmP z := by
  unfold zz3
  rw [zqm_PO, zqm_PO, zqm_PO]
theorem zendRg {n w d c : Nat} {u : zU} {v : zN} (h : zRel n u v) (hw : w < 3) (h18 : zmI v 18 = nI w) (h17 : zmI v 17 = 0) (h6 : ¬ zmI v 13 = 6) (hd : d < 3) (h12 : zmI v 12 = nI d) (hc : c < 6) (h13 : zmI v 13 = nI c) : zRel n (zf_X4_endDeal u (nI w)) (zf_X5_ends v) ∧ zmI (zf_X5_ends v) 0 = zmI v 0 := by
  have g12 : zmI (zeV v w 0) 12 = nI d := by rw [zeV_I _ _ _ _ (by omega)]; exact h12
  have g13 : zmI (zeV v w 0) 13 = nI c := by rw [zeV_I _ _ _ _ (by omega)]; exact h13
  have g6 : ¬ zmI (zeV v w 0) 13 = 6 := by rw [zeV_I _ _ _ _ (by omega)]; exact h6
  have hV : zVr (zuI1 (zuI1 u 6 6) 7 (-1)) (zeV v w 0) := zeVr h w
  have hV3 : zVr (zuI1 (zuI1 u 6 6) 7 (-1)) (zz3 (zeV v w 0)) := by
    unfold zz3
    exact zVr_O _ _ (zVr_O _ _ (zVr_O _ _ hV))
  have g123 : zmI (zz3 (zeV v w 0)) 12 = nI d := by rw [zz3_I]; exact g12
  have eU : zf_X4_endDeal u (nI w) = zf_X4_scoreGame (zuI1 (zuI1 u 6 6) 7 (-1)) := by
    unfold zf_X4_endDeal
    rw [zRel_co h, if_neg h6]
  have eV : zf_X5_ends v = zk_X5_ends_43 v (zf_X5_valueOf (zeV v w 0)) (zeV v w 0) := by
    unfold zf_X5_ends
    rw [h18, if_neg h6, nI_clamp (by omega)]
    unfold zeV
    rfl
  have e43 : zk_X5_ends_43 v (zf_X5_valueOf (zeV v w 0)) (zeV v w 0) = zmO1 (zz3 (zeV v w 0)) d ((zmO (zz3 (zeV v w 0)) d) + (if zf_X5_isWon (zz3 (zeV v w 0)) = 0 then (-2) * zf_X5_valueOf (zeV v w 0) else zf_X5_valueOf (zeV v w 0))) := by
    unfold zk_X5_ends_43
    rw [if_neg g6, if_neg g6, if_neg g6, if_neg g6, g12, nI_clamp (n := d) (by omega)]
    unfold zz3
    rfl
  rw [eU, eV, e43, zsgV hV hV3 hd g12 g123 hc g13]
  constructor
  · refine zover h ?_ ?_ ?_ ?_ ?_ ?_ ?_ ?_ ?_ ?_ ?_ ?_ ?_ ?_ ?_ ?_ h17 ?_ ?_
    · rw [zqu_CO, zqu_CI, zqu_CI]
    · rw [zqu_LO, zqu_LI, zqu_LI]
    · rw [zqu_TO, zqu_TI, zqu_TI]
    · rw [zqu_RO, zqu_RI, zqu_RI]
    · rw [zqu_KO, zqu_KI, zqu_KI]
    · rw [zqu_ZO, zqu_ZI, zqu_ZI]
    · intro i i7 i6; rw [zqu_IO, zII _ _ _ _ i7, zII _ _ _ _ i6]
    · rw [zqu_IO, zII _ _ _ _ (by omega), zIs]
    · rw [zqu_IO, zIs]
    · rw [zqm_CO, zz3_C, zeV_C]
    · rw [zqm_LO, zz3_L, zeV_L]
    · rw [zqm_TO, zz3_T, zeV_T]
    · rw [zqm_RO, zz3_R, zeV_R]
    · rw [zqm_KO, zz3_K, zeV_K]
    · intro i i2; rw [zqm_IO, zz3_I, zeV_I _ _ _ _ i2]
    · rw [zqm_IO, zz3_I, zeV_2]
    · intro j hj; rw [zqu_PO, zqm_PO, zz3_P]; exact hV.2.2.1 j hj
    · intro j hj
      rw [zqu_OO, zqm_OO, zz3_O, zeV_O, zqu_OI, zqu_OI, zRel_O h j hj, zRel_O h d hd]
  · rw [zqm_IO, zz3_I, zeV_I _ _ _ _ (by omega)]
theorem zendR {n w : Nat} {u : zU} {v : zN} (h : zRel n u v) (h1 : ¬ zmI v 13 = -1) (hw : w < 3) (h18 : zmI v 18 = nI w) (h17 : zmI v 17 = 0) : zRel n (zf_X4_endDeal u (nI w)) (zf_X5_ends v) ∧ zmI (zf_X5_ends v) 0 = zmI v 0 := by
  by_cases h6 : zmI v 13 = 6
  · exact zendR6 h hw h18 h17 h6
  · rcases zRel_cn h with e | e | ⟨c, hc, e, h12⟩
    · exact absurd e h1
    · exact absurd e h6
    · obtain ⟨d, hd, e12⟩ := vp_in_of h12 (by omega)
      exact zendRg h hw h18 h17 h6 hd e12 hc e
