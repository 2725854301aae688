set_option maxHeartbeats 1000000
/-! the value of a game, by what it reads alone -/
theorem zmax3 (a b c : Int32) : (if a < (if b < c then c else b) then (if b < c then c else b) else a) = (if c ≤ (if b ≤ a then a else b) then (if b ≤ a then a else b) else c) := by
  by_cases h1 : b < c
  · rw [if_pos h1]
    by_cases h2 : b ≤ a
    · rw [if_pos h2]
      by_cases h3 : a < c
      · rw [if_pos h3, if_neg (fun h => by rw [Int32.lt_iff_toInt_lt] at h3; rw [Int32.le_iff_toInt_le] at h; omega)]
      · rw [if_neg h3, if_pos (by rw [Int32.lt_iff_toInt_lt] at h3; rw [Int32.le_iff_toInt_le]; omega)]
    · rw [if_neg h2, if_pos (by rw [Int32.lt_iff_toInt_lt] at h1 ⊢; rw [Int32.le_iff_toInt_le] at h2; omega), if_neg (fun h => by rw [Int32.lt_iff_toInt_lt] at h1; rw [Int32.le_iff_toInt_le] at h; omega)]
  · rw [if_neg h1]
    by_cases h2 : b ≤ a
    · rw [if_pos h2, if_neg (fun h => by rw [Int32.lt_iff_toInt_lt] at h; rw [Int32.le_iff_toInt_le] at h2; omega), if_pos (by rw [Int32.lt_iff_toInt_lt] at h1; rw [Int32.le_iff_toInt_le] at h2 ⊢; omega)]
    · rw [if_neg h2, if_pos (by rw [Int32.lt_iff_toInt_lt]; rw [Int32.le_iff_toInt_le] at h2; omega), if_pos (by rw [Int32.lt_iff_toInt_lt] at h1; rw [Int32.le_iff_toInt_le]; omega)]
theorem zge1 (e : Int32) : 1 ≤ e ↔ 0 < e := by
  rw [Int32.lt_iff_toInt_lt, Int32.le_iff_toInt_le, show (1 : Int32).toInt = 1 by decide, show (0 : Int32).toInt = 0 by decide]
  omega
theorem zge2 (e : Int32) : 2 ≤ e ↔ 1 < e := by
  rw [Int32.lt_iff_toInt_lt, Int32.le_iff_toInt_le, show (1 : Int32).toInt = 1 by decide, show (2 : Int32).toInt = 2 by decide]
  omega
theorem zlt2 (e : Int32) : e < 2 ↔ e ≤ 1 := by
  rw [Int32.lt_iff_toInt_lt, Int32.le_iff_toInt_le, show (1 : Int32).toInt = 1 by decide, show (2 : Int32).toInt = 2 by decide]
  omega
theorem zplus (c : Prop) [Decidable c] (x : Int32) : (if c then x else x + 1) = x + (if c then (0 : Int32) else 1) := by
  by_cases h : c
  · rw [if_pos h, if_pos h, Int32.add_zero]
  · rw [if_neg h, if_neg h]
theorem zplus2 (c : Prop) [Decidable c] (x y : Int32) : (if c then x + 1 else if y = 0 then x else x + 1) = x + (if (if c then (1 : Int32) else y) = 0 then (0 : Int32) else 1) := by
  by_cases h : c
  · rw [if_pos h, if_pos h, if_neg (by decide)]
  · rw [if_neg h, if_neg h]; exact zplus _ _
theorem zite_iff {α : Type} {p q : Prop} [Decidable p] [Decidable q] (h : p ↔ q) (x y : α) : (if p then x else y) = if q then x else y := by
  by_cases hp : p
  · rw [if_pos hp, if_pos (h.mp hp)]
  · rw [if_neg hp, if_neg (fun hq => hp (h.mpr hq))]
def zVr (u : zU) (z : zN) : Prop := (∀ j, j < 3 → zuC u j = zmC z j) ∧ (∀ j, j < 3 → zuL u j = zmL z j) ∧ (∀ j, j < 3 → zuP u j = zmP z j) ∧ (∀ j, j < 3 → zuT u j = zmT z j) ∧ zuK u = zmK z ∧ zuI u 10 = zmI z 11 ∧ zuI u 11 = zmI z 12 ∧ zuI u 12 = zmI z 13 ∧ zuI u 13 = zmI z 14 ∧ zuI u 14 = zmI z 15
theorem zmostV {u : zU} {z : zN} (hP : ∀ j, j < 3 → zuP u j = zmP z j) : zf_X4_mostPoints u = zf_X5_most z := by
  unfold zf_X4_mostPoints zf_X5_most
  rw [hP 0 (by omega), hP 1 (by omega), hP 2 (by omega)]
  exact zmax3 _ _ _
theorem zmatV {u : zU} {z : zN} (h : zVr u z) {j : Nat} (hj : j < 3) (hd : zmI z 12 = nI j) (c : Int32) : zf_X1_runOfTrumps (zf_X4_cardsForMatadors u (zuI u 11)) c = zf_X5_gapless z (zmI z 12) c := by
  obtain ⟨hC, hL, hP, hT, hK, hl, hde, hco, hex, hhg⟩ := h
  unfold zf_X4_cardsForMatadors zf_X5_gapless
  rw [hde, hd, zrun z (nI j), zseat u (vp_in_nI hj (by omega)), nI_clamp (by omega), hC j hj, hL j hj, hK, if_pos rfl, if_pos rfl]
theorem zosp {u : zU} {z : zN} (h : zVr u z) {j : Nat} (hj : j < 3) (hd : zmI z 12 = nI j) : zf_X4_hasOneSidePoints u 90 = if 90 ≤ (zmP z ((zmI z 12).toNatClampNeg)) then (1 : Int32) else if ((((zmP z 0) + (zmP z 1)) + (zmP z 2)) - (zmP z ((zmI z 12).toNatClampNeg))) < 90 then (0 : Int32) else 1 := by
  obtain ⟨hC, hL, hP, hT, hK, hl, hde, hco, hex, hhg⟩ := h
  unfold zf_X4_hasOneSidePoints zf_X4_allPointsWon
  rw [hde, hd, zseat u (vp_in_nI hj (by omega)), nI_clamp (by omega), hP j hj, hP 0 (by omega), hP 1 (by omega), hP 2 (by omega)]
theorem zost {u : zU} {z : zN} (h : zVr u z) {j : Nat} (hj : j < 3) (hd : zmI z 12 = nI j) : zf_X4_hasOneSideAllTricks u = if (zmT z ((zmI z 12).toNatClampNeg)) = 10 then (1 : Int32) else if ((((zmT z 0) + (zmT z 1)) + (zmT z 2)) - (zmT z ((zmI z 12).toNatClampNeg))) = 10 then (1 : Int32) else 0 := by
  obtain ⟨hC, hL, hP, hT, hK, hl, hde, hco, hex, hhg⟩ := h
  unfold zf_X4_hasOneSideAllTricks zf_X4_allTricksWon
  rw [hde, hd, zseat u (vp_in_nI hj (by omega)), nI_clamp (by omega), hT j hj, hT 0 (by omega), hT 1 (by omega), hT 2 (by omega)]
theorem zmulV {u : zU} {z : zN} (h : zVr u z) {j : Nat} (hj : j < 3) (hd : zmI z 12 = nI j) : (zf_X5_base z) * (zf_X4_multiplier u) = zk_X5_worthOfGame_123 z (zf_X5_gapless z (zmI z 12) (zmI z 13)) ((((zmP z 0) + (zmP z 1)) + (zmP z 2)) - (zmP z ((zmI z 12).toNatClampNeg))) ((((zmT z 0) + (zmT z 1)) + (zmT z 2)) - (zmT z ((zmI z 12).toNatClampNeg))) := by
  have hp := zosp h hj hd
  have ht := zost h hj hd
  have hr := zmatV h hj hd (zmI z 13)
  obtain ⟨hC, hL, hP, hT, hK, hl, hde, hco, hex, hhg⟩ := h
  unfold zf_X4_multiplier zk_X4_multiplier_21 zk_X4_multiplier_31 zk_X4_multiplier_51 zk_X5_worthOfGame_123 zk_X5_worthOfGame_157 zk_X5_worthOfGame_192
  rw [hp, ht, hco, hr, hex, hhg, zplus2, zplus2, zplus]
  rw [zite_iff (zge1 (zmI z 14)), zite_iff (zge2 (zmI z 14))]
  generalize zf_X5_gapless z (zmI z 12) (zmI z 13) = r
  rw [Int32.zero_sub, Int32.add_comm _ 1]
theorem zwogV {u : zU} {z : zN} (h : zVr u z) {j : Nat} (hj : j < 3) (hd : zmI z 12 = nI j) : zf_X4_valueBeforeRaising u = zf_X5_worthOfGame z := by
  have hm := zmulV h hj hd
  obtain ⟨hC, hL, hP, hT, hK, hl, hde, hco, hex, hhg⟩ := h
  unfold zf_X4_valueBeforeRaising zf_X5_worthOfGame zf_X4_nullValue
  rw [hco, hex, hhg, ← hm, show zf_X4_baseValue u = zf_X5_base z by unfold zf_X4_baseValue zf_X5_base; rw [hco]]
theorem zbaseV {z : zN} {c : Nat} (hc : c < 6) (h13 : zmI z 13 = nI c) : 0 < zf_X5_base z := by
  unfold zf_X5_base
  rw [h13]
  rcases c with _ | _ | _ | _ | _ | _ | c
  · decide
  · decide
  · decide
  · decide
  · decide
  · decide
  · omega
theorem zvalV {u : zU} {z : zN} (h : zVr u z) {j : Nat} (hj : j < 3) (hd : zmI z 12 = nI j) {c : Nat} (hc : c < 6) (h13 : zmI z 13 = nI c) : zf_X4_raisedToBid u (zf_X4_valueBeforeRaising u) = zf_X5_valueOf z := by
  have hb := zbaseV hc h13
  have h6 : ¬ zmI z 13 = 6 := by
    rw [h13]
    intro e1
    have e2 := congrArg Int32.toInt e1
    rw [nI_toInt (by omega), show (6 : Int32).toInt = 6 by decide] at e2
    omega
  rw [zwogV h hj hd]
  obtain ⟨hC, hL, hP, hT, hK, hl, hde, hco, hex, hhg⟩ := h
  unfold zf_X4_raisedToBid zf_X5_valueOf
  rw [show zf_X4_baseValue u = zf_X5_base z by unfold zf_X4_baseValue zf_X5_base; rw [hco], hl, hco, if_neg h6, if_pos hb]
theorem zRel_V {n : Nat} {u : zU} {v : zN} (h : zRel n u v) : zVr u v := ⟨zRel_C h, zRel_Ld h, zRel_P h, zRel_Tr h, zRel_K h, zRel_lb h, zRel_de h, zRel_co h, zRel_ex h, zRel_hg h⟩
theorem zSo_value {n : Nat} {w : zU × (Nat → Int64)} {v : zN} (h : zRel n w.1 v) (hn : n < 600) : (zw_value w).1 = zmI (zf_X5_value v).2 0 ∧ ((zw_value w).1 = 0 → (zw_value w).2.2 0 = (zf_X5_value v).1.toInt64) ∧ zRel (n + 1) (zw_value w).2.1 (zf_X5_value v).2 := by
  by_cases h1 : zmI v 13 = -1
  · refine zErr (k := 1) (x := 0) h (by decide) ?_ ?_
    · unfold zw_value zf_X4_value
      rw [zRel_co h, if_pos h1]; rfl
    · unfold zf_X5_value
      rw [if_pos h1]
  · have hf : zf_X4_value w.1 = (0, zf_X5_valueOf (zmI1 v 0 0), w.1) := by
      unfold zf_X4_value
      rw [zRel_co h, if_neg h1]
      by_cases h6 : zmI v 13 = 6
      · rw [if_pos h6, zmostV (z := zmI1 v 0 0) (zRel_P h)]
        have e : zf_X5_valueOf (zmI1 v 0 0) = zf_X5_most (zmI1 v 0 0) := by
          unfold zf_X5_valueOf
          exact if_pos h6
        rw [e]
      · rw [if_neg h6]
        rcases zRel_cn h with e | e | ⟨c, hc, e, h12⟩
        · exact absurd e h1
        · exact absurd e h6
        · obtain ⟨q, hq, e12⟩ := vp_in_of h12 (by omega)
          rw [zvalV (z := zmI1 v 0 0) (zRel_V (zRel_t (x := 0) h)) hq e12 hc e]
    refine zOk (u' := w.1) (f := w.2) (v' := zmI1 v 0 0) (x := zf_X5_valueOf (zmI1 v 0 0)) (by unfold zw_value; rw [hf]; rfl) ?_ rfl (zRel_t h)
    unfold zf_X5_value
    rw [if_neg h1]
