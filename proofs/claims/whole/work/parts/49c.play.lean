set_option maxHeartbeats 1000000
/-! play, both sides -/
theorem zaddU {u : zU} {q k : Nat} (hk : k < 3) (hZ : zuZ u = nI k) (p : Int32) : zf_X3_add (zf_X2_lay u q p) p = zpU u q k p := by
  have e : zuZ (zf_X2_lay u q p) = nI k := by unfold zf_X2_lay; rw [zqu_ZL, zqu_ZC, hZ]
  unfold zf_X3_add zpU
  rw [e, if_neg (nI_pos (by omega)), if_neg (show ¬ (3 : Int32) ≤ nI k from nI_ge (a := k) (b := 3) hk (by omega)), nI_clamp (by omega), nI_1]
theorem zplU {u : zU} {q k : Nat} {p : Int32} (hc : ¬ zf_X4_isCard p = 0) (h6 : zuI u 6 = 5) (hh : ¬ lg_cmp ((zf_X4_playableCards u) &&& (zf_X1_setOf p)) 0 = 0) (hs : zf_X4_seat u (zuI u 7) = q) (hk : k < 3) (hZ : zuZ u = nI k) : zf_X4_play u p = zk_X4_play_69 u p (zpU u q k p) := by
  unfold zf_X4_play
  rw [if_neg hc, if_pos h6, if_neg hh, hs, zaddU hk hZ]
theorem zplV {v : zN} {q k : Nat} {p : Int32} (hc : ¬ zf_X5_in p 0 31 = 0) (h5 : zmI v 2 = 5) (hh : ¬ zf_X5_has (zf_X5_open v) p = 0) (h3 : (zmI v 3).toNatClampNeg = q) (h17 : zmI v 17 = nI k) (hk : k < 3) : zf_X5_play v p = if 3 ≤ nI (k + 1) then ((zf_X5_wins (zpV v q k p)).1, (zf_X5_wins (zpV v q k p)).2) else ((-1), zmI1 (zpV v q k p) 3 (((zmI v 3) + 1) - ((zmI v 3) + 1) / 3 * 3)) := by
  unfold zf_X5_play zpV
  rw [if_neg hc, if_pos h5, if_neg hh, h3, h17, nI_clamp (n := k) (by omega), nI_1]
/-! a card that ends no trick -/
theorem zmidR {n a k c : Nat} {u : zU} {v : zN} (h : zRel n u v) (h5 : zmI v 2 = 5) (ha : a < 3) (hk : k < 2) (h18 : zmI v 18 = nI a) (hr : ∀ j, j < k → ∃ r, r < 32 ∧ zmR v j = nI r) (hc : c < 32) : zRel (n + 1) (zuI1 (zpU u ((a + k) % 3) k (nI c)) 7 (nI ((a + k + 1) % 3))) (zmI1 (zpV v ((a + k) % 3) k (nI c)) 3 (nI ((a + k + 1) % 3))) := by
  have hq : (a + k) % 3 < 3 := Nat.mod_lt _ (by omega)
  have hin : vp_in (nI ((a + k + 1) % 3)) 3 := vp_in_nI (Nat.mod_lt _ (by omega)) (by omega)
  have e2 : zmI (zmI1 (zpV v ((a + k) % 3) k (nI c)) 3 (nI ((a + k + 1) % 3))) 2 = 5 := by
    rw [zNN _ _ _ _ (by omega), zpV_I _ _ _ _ _ (by omega) (by omega)]; exact h5
  have e17 : zmI (zmI1 (zpV v ((a + k) % 3) k (nI c)) 3 (nI ((a + k + 1) % 3))) 17 = nI (k + 1) := by
    rw [zNN _ _ _ _ (by omega), zpV_17]
  have e18 : zmI (zmI1 (zpV v ((a + k) % 3) k (nI c)) 3 (nI ((a + k + 1) % 3))) 18 = nI a := by
    rw [zNN _ _ _ _ (by omega), zpV_I _ _ _ _ _ (by omega) (by omega)]; exact h18
  refine zRel_mk (fun j hj => ?_) (fun j hj => ?_) (fun j hj => ?_) (fun j hj => ?_) (fun j hj => ?_) (fun j hj => ?_) ?_ ?_ ?_ ?_ ?_ ?_ ?_ ?_ ?_ ?_ ?_ ?_ ?_ ?_ ?_ ?_ ?_ ?_
  · rw [zqu_CI, zqm_CI, zpU_C, zpV_C, zRel_C h j hj, zRel_C h _ hq]
  · rw [zqu_LI, zqm_LI, zpU_L, zpV_L, zRel_Ld h j hj, zRel_Ld h _ hq]
  · rw [zqu_PI, zqm_PI, zpU_P, zpV_P]; exact zRel_P h j hj
  · rw [zqu_TI, zqm_TI, zpU_T, zpV_T]; exact zRel_Tr h j hj
  · rw [zqu_OI, zqm_OI, zpU_O, zpV_O]; exact zRel_O h j hj
  · rw [zqu_RI, zqm_RI, zpU_R, zpV_R, zRel_R h j hj]
  · rw [zqu_KI, zqm_KI, zpU_K, zpV_K]; exact zRel_K h
  · rw [zqu_ZI, zpU_Z, e17]
  · rw [zII _ _ _ _ (by omega), zpU_I, e2, zRel_ph h]; exact h5
  · rw [zII _ _ _ _ (show ¬ 10 = 7 by omega), zNN _ _ _ _ (show ¬ 11 = 3 by omega), zpU_I, zpV_I _ _ _ _ _ (by omega) (by omega)]; exact zRel_lb h
  · rw [zII _ _ _ _ (show ¬ 11 = 7 by omega), zNN _ _ _ _ (show ¬ 12 = 3 by omega), zpU_I, zpV_I _ _ _ _ _ (by omega) (by omega)]; exact zRel_de h
  · rw [zII _ _ _ _ (show ¬ 12 = 7 by omega), zNN _ _ _ _ (show ¬ 13 = 3 by omega), zpU_I, zpV_I _ _ _ _ _ (by omega) (by omega)]; exact zRel_co h
  · rw [zII _ _ _ _ (show ¬ 13 = 7 by omega), zNN _ _ _ _ (show ¬ 14 = 3 by omega), zpU_I, zpV_I _ _ _ _ _ (by omega) (by omega)]; exact zRel_ex h
  · rw [zII _ _ _ _ (show ¬ 14 = 7 by omega), zNN _ _ _ _ (show ¬ 15 = 3 by omega), zpU_I, zpV_I _ _ _ _ _ (by omega) (by omega)]; exact zRel_hg h
  · rw [zII _ _ _ _ (show ¬ 5 = 7 by omega), zNN _ _ _ _ (show ¬ 1 = 3 by omega), zpU_I, zpV_I _ _ _ _ _ (by omega) (by omega)]
    obtain ⟨d, d1, d2, d3⟩ := zRel_fh h
    exact ⟨d, by omega, d2, d3⟩
  · rw [zIs, e2, if_neg (by decide), zNs]
  · rw [zNs]; exact hin
  · rw [e18]; exact vp_in_nI ha (by omega)
  · rw [e17]; exact vp_in_nI (by omega) (by omega)
  · exact fun q => absurd e2 q
  · rw [e2]; exact fun q => q.elim (fun q => absurd q (by decide)) (fun q => absurd q (by decide))
  · rw [e2]; exact fun q => q.elim (fun q => absurd q (by decide)) (fun q => q.elim (fun q => absurd q (by decide)) (fun q => absurd q (by decide)))
  · rw [zNN _ _ _ _ (show ¬ 13 = 3 by omega), zNN _ _ _ _ (show ¬ 12 = 3 by omega), zpV_I _ _ _ _ 13 (by omega) (by omega), zpV_I _ _ _ _ 12 (by omega) (by omega)]; exact zRel_cn h
  · intro _
    refine ⟨?_, a, k + 1, ha, by omega, e18, e17, ?_, ?_⟩
    · rw [zNN _ _ _ _ (show ¬ 13 = 3 by omega), zpV_I _ _ _ _ 13 (by omega) (by omega)]; exact (zRel_p5 h h5).1
    · rw [zNs]; rfl
    · intro j hj
      rw [zqm_RI, zpV_R]
      by_cases hjk : j = k
      · rw [if_pos hjk]; exact ⟨c, hc, rfl⟩
      · rw [if_neg hjk]; exact hr j (by omega)
/-! a card that ends a trick -/
theorem zwonR {n a w c : Nat} {u : zU} {v : zN} (h : zRel n u v) (h5 : zmI v 2 = 5) (ha : a < 3) (hw : w < 3) (s : Int32) : zRel (n + 1) (zwU (zpU u ((a + 2) % 3) 2 (nI c)) w s) (zwV (zpV v ((a + 2) % 3) 2 (nI c)) w s) := by
  have hq : (a + 2) % 3 < 3 := Nat.mod_lt _ (by omega)
  have hin : vp_in (nI w) 3 := vp_in_nI hw (by omega)
  have e2 : zmI (zwV (zpV v ((a + 2) % 3) 2 (nI c)) w s) 2 = 5 := by
    rw [zwV_I _ _ _ _ (by omega) (by omega) (by omega), zpV_I _ _ _ _ _ (by omega) (by omega)]; exact h5
  refine zRel_mk (fun j hj => ?_) (fun j hj => ?_) (fun j hj => ?_) (fun j hj => ?_) (fun j hj => ?_) (fun j hj => ?_) ?_ ?_ ?_ ?_ ?_ ?_ ?_ ?_ ?_ ?_ ?_ ?_ ?_ ?_ ?_ ?_ ?_ ?_
  · rw [zwU_C, zwV_C, zpU_C, zpV_C, zRel_C h j hj, zRel_C h _ hq]
  · rw [zwU_L, zwV_L, zpU_L, zpV_L, zRel_Ld h j hj, zRel_Ld h _ hq]
  · rw [zwU_P, zwV_P, zpU_P, zpV_P, zRel_P h j hj, zRel_P h w hw]
  · rw [zwU_T, zwV_T, zpU_T, zpV_T, zRel_Tr h j hj, zRel_Tr h w hw]
  · rw [zwU_O, zwV_O, zpU_O, zpV_O]; exact zRel_O h j hj
  · rw [zwU_R, zwV_R, zpU_R, zpV_R, zRel_R h j hj]
  · rw [zwU_K, zwV_K, zpU_K, zpV_K]; exact zRel_K h
  · rw [zwU_Z, zwV_17]
  · rw [zwU_I _ _ _ _ (by omega), zpU_I, e2, zRel_ph h]; exact h5
  · rw [zwU_I _ _ _ _ (show ¬ 10 = 7 by omega), zwV_I _ _ _ 11 (by omega) (by omega) (by omega), zpU_I, zpV_I _ _ _ _ _ (by omega) (by omega)]; exact zRel_lb h
  · rw [zwU_I _ _ _ _ (show ¬ 11 = 7 by omega), zwV_I _ _ _ 12 (by omega) (by omega) (by omega), zpU_I, zpV_I _ _ _ _ _ (by omega) (by omega)]; exact zRel_de h
  · rw [zwU_I _ _ _ _ (show ¬ 12 = 7 by omega), zwV_I _ _ _ 13 (by omega) (by omega) (by omega), zpU_I, zpV_I _ _ _ _ _ (by omega) (by omega)]; exact zRel_co h
  · rw [zwU_I _ _ _ _ (show ¬ 13 = 7 by omega), zwV_I _ _ _ 14 (by omega) (by omega) (by omega), zpU_I, zpV_I _ _ _ _ _ (by omega) (by omega)]; exact zRel_ex h
  · rw [zwU_I _ _ _ _ (show ¬ 14 = 7 by omega), zwV_I _ _ _ 15 (by omega) (by omega) (by omega), zpU_I, zpV_I _ _ _ _ _ (by omega) (by omega)]; exact zRel_hg h
  · rw [zwU_I _ _ _ _ (show ¬ 5 = 7 by omega), zwV_I _ _ _ 1 (by omega) (by omega) (by omega), zpU_I, zpV_I _ _ _ _ _ (by omega) (by omega)]
    obtain ⟨d, d1, d2, d3⟩ := zRel_fh h
    exact ⟨d, by omega, d2, d3⟩
  · rw [zwU_7, e2, if_neg (by decide), zwV_3]
  · rw [zwV_3]; exact hin
  · rw [zwV_18]; exact hin
  · rw [zwV_17]; exact vp_in_iff.mpr (by decide)
  · exact fun q => absurd e2 q
  · rw [e2]; exact fun q => q.elim (fun q => absurd q (by decide)) (fun q => absurd q (by decide))
  · rw [e2]; exact fun q => q.elim (fun q => absurd q (by decide)) (fun q => q.elim (fun q => absurd q (by decide)) (fun q => absurd q (by decide)))
  · rw [zwV_I _ _ _ 13 (by omega) (by omega) (by omega), zwV_I _ _ _ 12 (by omega) (by omega) (by omega), zpV_I _ _ _ _ 13 (by omega) (by omega), zpV_I _ _ _ _ 12 (by omega) (by omega)]; exact zRel_cn h
  · intro _
    refine ⟨?_, w, 0, hw, by omega, zwV_18 _ _ _, ?_, ?_, fun j hj => absurd hj (by omega)⟩
    · rw [zwV_I _ _ _ 13 (by omega) (by omega) (by omega), zpV_I _ _ _ _ 13 (by omega) (by omega)]; exact (zRel_p5 h h5).1
    · rw [zwV_17, nI_0]
    · rw [zwV_3]
      congr 1
      omega
/-! who wins it -/
theorem zcardA (u : zU) (hZ : zuZ u = 3) : zf_X3_cardAt u 0 = zuR u 0 ∧ zf_X3_cardAt u 1 = zuR u 1 ∧ zf_X3_cardAt u 2 = zuR u 2 := by
  unfold zf_X3_cardAt
  rw [hZ]
  refine ⟨?_, ?_, ?_⟩
  · rw [if_neg (by decide), if_neg (by decide), if_neg (by decide)]
    exact congrArg (zuR u) (by decide)
  · rw [if_neg (by decide), if_neg (by decide), if_neg (by decide)]
    exact congrArg (zuR u) (by decide)
  · rw [if_neg (by decide), if_neg (by decide), if_neg (by decide)]
    exact congrArg (zuR u) (by decide)
theorem zbestIn (v : zN) : ∃ b, b < 3 ∧ zbest v = nI b := by
  unfold zbest
  by_cases h1 : zf_X5_isOver v (zmR v 1) (zmR v 0) = 0
  · rw [if_pos h1]
    by_cases h2 : zf_X5_isOver v (zmR v 2) (zmR v 0) = 0
    · rw [if_pos h2]; exact ⟨0, by omega, rfl⟩
    · rw [if_neg h2]; exact ⟨2, by omega, rfl⟩
  · rw [if_neg h1]
    by_cases h2 : zf_X5_isOver v (zmR v 2) (zmR v 1) = 0
    · rw [if_pos h2]; exact ⟨1, by omega, rfl⟩
    · rw [if_neg h2]; exact ⟨2, by omega, rfl⟩
theorem zwho : ∀ a, a < 3 → ∀ b, b < 3 → (if nI b = 0 then zf_X4_playerAfter (nI ((a + 2) % 3)) else if nI b = 1 then zf_X4_playerAfter (zf_X4_playerAfter (nI ((a + 2) % 3))) else nI ((a + 2) % 3)) = nI ((a + b) % 3) := by decide +kernel
theorem zk49 (v : zN) {w : Nat} (hw : w < 3) : zk_X5_wins_49 v (nI w) = if ((zmT (zwV v w (((zf_X5_worth (zmR v 0)) + (zf_X5_worth (zmR v 1))) + (zf_X5_worth (zmR v 2)))) 0) + (zmT (zwV v w (((zf_X5_worth (zmR v 0)) + (zf_X5_worth (zmR v 1))) + (zf_X5_worth (zmR v 2)))) 1)) + (zmT (zwV v w (((zf_X5_worth (zmR v 0)) + (zf_X5_worth (zmR v 1))) + (zf_X5_worth (zmR v 2)))) 2) = 10 then (nI w, zf_X5_ends (zwV v w (((zf_X5_worth (zmR v 0)) + (zf_X5_worth (zmR v 1))) + (zf_X5_worth (zmR v 2))))) else (nI w, zwV v w (((zf_X5_worth (zmR v 0)) + (zf_X5_worth (zmR v 1))) + (zf_X5_worth (zmR v 2)))) := by
  unfold zk_X5_wins_49
  rw [nI_clamp (by omega)]
  unfold zwV
  rw [zqm_TI, zqm_TI, zqm_TI]
theorem zk69 (u U : zU) (p : Int32) {w : Nat} {s : Int32} (hw : w < 3) (hZ : zuZ U = 3) (ht : zf_X4_trickWinner U = nI w) (hs : zf_X3_sumOfPoints U = s) : zk_X4_play_69 u p U = if (zf_X4_allTricksWon (zwU U w s)) = 10 then (0, nI w, zf_X4_endDeal (zwU U w s) (nI w)) else (0, nI w, zwU U w s) := by
  unfold zk_X4_play_69 zf_X3_isComplete
  rw [if_pos hZ, if_neg (by decide), ht, zseat U (vp_in_nI hw (by omega)), nI_clamp (by omega), hs]
  rfl
/-- the relation, and the call's answer, of a trick's third card -/
theorem zthird {n a c : Nat} {u : zU} {v : zN} (h : zRel n u v) (h5 : zmI v 2 = 5) (ha : a < 3) (h18 : zmI v 18 = nI a) (h3 : zmI v 3 = nI ((a + 2) % 3)) (hr : ∀ j, j < 2 → ∃ r, r < 32 ∧ zmR v j = nI r) (hc : c < 32) : ∃ (w : Nat) (U : zU) (V : zN), zk_X4_play_69 u (nI c) (zpU u ((a + 2) % 3) 2 (nI c)) = (0, nI w, U) ∧ zf_X5_wins (zpV v ((a + 2) % 3) 2 (nI c)) = (nI w, V) ∧ zRel (n + 1) U V ∧ zmI V 0 = 0 := by
  obtain ⟨hco, -⟩ := zRel_p5 h h5
  have h13 : ∃ t, t < 7 ∧ zmI v 13 = nI t := by
    rcases zRel_cn h with e | e | ⟨t, ht, e, -⟩
    · exact absurd e hco
    · exact ⟨6, by omega, e⟩
    · exact ⟨t, by omega, e⟩
  obtain ⟨t, ht7, h13⟩ := h13
  obtain ⟨r0, hr0, e0⟩ := hr 0 (by omega)
  obtain ⟨r1, hr1, e1⟩ := hr 1 (by omega)
  have V13 : zmI (zpV v ((a + 2) % 3) 2 (nI c)) 13 = nI t := by rw [zpV_I _ _ _ _ _ (by omega) (by omega)]; exact h13
  have V18 : zmI (zpV v ((a + 2) % 3) 2 (nI c)) 18 = nI a := by rw [zpV_I _ _ _ _ _ (by omega) (by omega)]; exact h18
  have V0 : zmR (zpV v ((a + 2) % 3) 2 (nI c)) 0 = nI r0 := by rw [zpV_R, if_neg (by omega)]; exact e0
  have V1 : zmR (zpV v ((a + 2) % 3) 2 (nI c)) 1 = nI r1 := by rw [zpV_R, if_neg (by omega)]; exact e1
  have V2 : zmR (zpV v ((a + 2) % 3) 2 (nI c)) 2 = nI c := by rw [zpV_R, if_pos rfl]
  have UZ : zuZ (zpU u ((a + 2) % 3) 2 (nI c)) = 3 := by rw [zpU_Z]; rfl
  have U12 : zuI (zpU u ((a + 2) % 3) 2 (nI c)) 12 = nI t := by rw [zpU_I, zRel_co h]; exact h13
  have U7 : zuI (zpU u ((a + 2) % 3) 2 (nI c)) 7 = nI ((a + 2) % 3) := by rw [zpU_I, zRel_ot h, if_neg (by rw [h5]; decide)]; exact h3
  obtain ⟨c0, c1, c2⟩ := zcardA _ UZ
  rw [zpU_R, if_neg (by omega), zRel_R h 0 (by omega), e0] at c0
  rw [zpU_R, if_neg (by omega), zRel_R h 1 (by omega), e1] at c1
  rw [zpU_R, if_pos rfl] at c2
  obtain ⟨b, hb, hbest⟩ := zbestIn (zpV v ((a + 2) % 3) 2 (nI c))
  have hw : (a + b) % 3 < 3 := Nat.mod_lt _ (by omega)
  have htw : zf_X4_trickWinner (zpU u ((a + 2) % 3) 2 (nI c)) = nI ((a + b) % 3) := by
    unfold zf_X4_trickWinner
    rw [U12, zwinner _ (zpV v ((a + 2) % 3) 2 (nI c)) ht7 hr0 hr1 hc V13 V0 V1 V2 c0 c1 c2, hbest, U7]
    exact zwho a ha b hb
  have hsum : zf_X3_sumOfPoints (zpU u ((a + 2) % 3) 2 (nI c)) = ((zf_X5_worth (nI r0)) + (zf_X5_worth (nI r1))) + (zf_X5_worth (nI c)) := by
    unfold zf_X3_sumOfPoints
    rw [c0, c1, c2, zpts r0 hr0, zpts r1 hr1, zpts c hc, Int32.zero_add]
  have hm : ((nI a + nI b) - (nI a + nI b) / 3 * 3) = nI ((a + b) % 3) := by
    rw [nI_add]; exact zmodN _ (by omega)
  have eW : zf_X5_wins (zpV v ((a + 2) % 3) 2 (nI c)) = zk_X5_wins_49 (zpV v ((a + 2) % 3) 2 (nI c)) (nI ((a + b) % 3)) := by
    rw [zbest_w, hbest]
    unfold zk_X5_wins_40
    rw [V18, hm]
  rw [eW, zk49 _ hw, zk69 u _ (nI c) hw UZ htw hsum, V0, V1, V2]
  generalize ((zf_X5_worth (nI r0)) + (zf_X5_worth (nI r1))) + (zf_X5_worth (nI c)) = s
  have hR := zwonR (c := c) h h5 ha hw s
  have hall : zf_X4_allTricksWon (zwU (zpU u ((a + 2) % 3) 2 (nI c)) ((a + b) % 3) s) = ((zmT (zwV (zpV v ((a + 2) % 3) 2 (nI c)) ((a + b) % 3) s) 0) + (zmT (zwV (zpV v ((a + 2) % 3) 2 (nI c)) ((a + b) % 3) s) 1)) + (zmT (zwV (zpV v ((a + 2) % 3) 2 (nI c)) ((a + b) % 3) s) 2) := by
    unfold zf_X4_allTricksWon
    rw [zRel_Tr hR 0 (by omega), zRel_Tr hR 1 (by omega), zRel_Tr hR 2 (by omega)]
  have h0 : zmI (zwV (zpV v ((a + 2) % 3) 2 (nI c)) ((a + b) % 3) s) 0 = 0 := by rw [zwV_I _ _ _ _ (by omega) (by omega) (by omega), zpV_0]
  have g13 : ¬ zmI (zwV (zpV v ((a + 2) % 3) 2 (nI c)) ((a + b) % 3) s) 13 = -1 := by rw [zwV_I _ _ _ _ (by omega) (by omega) (by omega), zpV_I _ _ _ _ _ (by omega) (by omega)]; exact hco
  rw [hall]
  by_cases h10 : ((zmT (zwV (zpV v ((a + 2) % 3) 2 (nI c)) ((a + b) % 3) s) 0) + (zmT (zwV (zpV v ((a + 2) % 3) 2 (nI c)) ((a + b) % 3) s) 1)) + (zmT (zwV (zpV v ((a + 2) % 3) 2 (nI c)) ((a + b) % 3) s) 2) = 10
  · rw [if_pos h10, if_pos h10]
    obtain ⟨q1, q2⟩ := zendR hR g13 hw (zwV_18 _ _ _) (zwV_17 _ _ _)
    exact ⟨(a + b) % 3, _, _, rfl, rfl, q1, q2.trans h0⟩
  · rw [if_neg h10, if_neg h10]
    exact ⟨(a + b) % 3, _, _, rfl, rfl, hR, h0⟩
theorem zSo_play {n : Nat} {w : zU × (Nat → Int64)} {v : zN} {p0 : Int32} (h : zRel n w.1 v) (hn : n < 600) : (zw_play w p0).1 = zmI (zf_X5_play v p0).2 0 ∧ ((zw_play w p0).1 = 0 → (zw_play w p0).2.2 0 = (zf_X5_play v p0).1.toInt64) ∧ zRel (n + 1) (zw_play w p0).2.1 (zf_X5_play v p0).2 := by
  rcases zcd p0 with ⟨c, hc, e0, g0, g1⟩ | ⟨g0, g1⟩
  rotate_left
  · refine zErr (k := 1) (x := 0) h (by decide) ?_ ?_
    · unfold zw_play zf_X4_play
      rw [if_pos g0]; rfl
    · unfold zf_X5_play
      rw [if_pos g1]
  have g00 : ¬ zf_X4_isCard p0 = 0 := by rw [g0]; decide
  have g10 : ¬ zf_X5_in p0 0 31 = 0 := by rw [g1]; decide
  by_cases h5 : zmI v 2 = 5
  rotate_left
  · refine zErr (k := 2) (x := 0) h (by decide) ?_ ?_
    · unfold zw_play zf_X4_play
      rw [if_neg g00, zRel_ph h, if_neg h5]; rfl
    · unfold zf_X5_play
      rw [if_neg g10, if_neg h5]
  have hp := zplayable (z := v) h h5 (fun _ => rfl) (fun _ => rfl) rfl rfl rfl
  by_cases hh : zf_X5_has (zf_X5_open v) p0 = 0
  · refine zErr (k := 2) (x := 0) h (by decide) ?_ ?_
    · unfold zw_play zf_X4_play
      rw [if_neg g00, zRel_ph h, if_pos h5, hp, if_pos (zlc0.mpr ((zhas0 _ _).mp hh))]; rfl
    · unfold zf_X5_play
      rw [if_neg g10, if_pos h5, if_pos hh]
  obtain ⟨hco, a, k, ha, hk, h18, h17, h3, hr⟩ := zRel_p5 h h5
  have hq : (a + k) % 3 < 3 := Nat.mod_lt _ (by omega)
  have hot : zuI w.1 7 = nI ((a + k) % 3) := by rw [zRel_ot h, if_neg (by rw [h5]; decide)]; exact h3
  have hU := zplU (q := (a + k) % 3) (k := k) g00 ((zRel_ph h).trans h5) (by rw [hp]; exact fun q => hh ((zhas0 _ _).mpr (zlc0.mp q))) (by rw [hot, zseat _ (vp_in_nI hq (by omega)), nI_clamp (by omega)]) hk ((zRel_Z h).trans h17)
  have hV := zplV (q := (a + k) % 3) (k := k) g10 h5 hh (by rw [h3, nI_clamp (by omega)]) h17 hk
  subst e0
  by_cases h2 : k = 2
  · subst h2
    obtain ⟨x, U, V, q1, q2, q3, q4⟩ := zthird h h5 ha h18 h3 hr hc
    rw [q1] at hU
    rw [if_pos (by decide), q2] at hV
    refine zOk (u' := U) (f := w.2) (v' := V) (x := nI x) (by unfold zw_play; rw [hU]; rfl) hV q4 q3
  · have hk2 : k < 2 := by omega
    have hm : (nI ((a + k) % 3) + 1) - (nI ((a + k) % 3) + 1) / 3 * 3 = nI ((a + k + 1) % 3) := by
      rw [nI_1, zmodN _ (by omega)]
      congr 1
      omega
    have haf : zf_X4_playerAfter (nI ((a + k) % 3)) = nI ((a + k + 1) % 3) := by rw [zafter (vp_in_nI hq (by omega)), hm]
    rw [if_neg (show ¬ (3 : Int32) ≤ nI (k + 1) from nI_ge (a := k + 1) (b := 3) (by omega) (by omega)), h3, hm] at hV
    have hf : zf_X4_play w.1 (nI c) = (0, -1, zuI1 (zpU w.1 ((a + k) % 3) k (nI c)) 7 (nI ((a + k + 1) % 3))) := by
      rw [hU]
      unfold zk_X4_play_69 zf_X3_isComplete
      have hne : ¬ nI (k + 1) = 3 := fun q => by
        rw [show (3 : Int32) = nI 3 from rfl, nI_eq (by omega) (by omega)] at q
        omega
      rw [zpU_Z, if_neg hne, if_pos rfl, zpU_I, hot, haf]
    refine zOk (u' := zuI1 (zpU w.1 ((a + k) % 3) k (nI c)) 7 (nI ((a + k + 1) % 3))) (f := w.2) (v' := zmI1 (zpV v ((a + k) % 3) k (nI c)) 3 (nI ((a + k + 1) % 3))) (x := -1) (by unfold zw_play; rw [hf]; rfl) hV ?_ (zmidR h h5 ha hk2 h18 hr hc)
    rw [zNN _ _ _ _ (by omega), zpV_0]
