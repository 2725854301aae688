/-! the state as deal 0 leaves it -/
def zU1 (u : zU) : Prop := zuI u 6 = 0 ∧ zuI u 7 = 1 ∧ zuI u 10 = 0 ∧ zuI u 11 = (-1) ∧ zuI u 12 = (-1) ∧ zuZ u = 0 ∧ zuC u 0 = 160842848 ∧ zuC u 1 = 2690661122 ∧ zuC u 2 = 1443397788 ∧ zuL u 0 = 0 ∧ zuL u 1 = 0 ∧ zuL u 2 = 0 ∧ zuP u 0 = 0 ∧ zuP u 1 = 0 ∧ zuP u 2 = 0 ∧ zuT u 0 = 0 ∧ zuT u 1 = 0 ∧ zuT u 2 = 0 ∧ zuO u 0 = 0 ∧ zuO u 1 = 0 ∧ zuO u 2 = 0
theorem zq_I6 {u : zU} (h : zU1 u) : zuI u 6 = 0 := h.1
theorem zq_I7 {u : zU} (h : zU1 u) : zuI u 7 = 1 := h.2.1
theorem zq_I10 {u : zU} (h : zU1 u) : zuI u 10 = 0 := h.2.2.1
theorem zq_I11 {u : zU} (h : zU1 u) : zuI u 11 = (-1) := h.2.2.2.1
theorem zq_I12 {u : zU} (h : zU1 u) : zuI u 12 = (-1) := h.2.2.2.2.1
theorem zq_Z {u : zU} (h : zU1 u) : zuZ u = 0 := h.2.2.2.2.2.1
theorem zq_C0 {u : zU} (h : zU1 u) : zuC u 0 = 160842848 := h.2.2.2.2.2.2.1
theorem zq_C1 {u : zU} (h : zU1 u) : zuC u 1 = 2690661122 := h.2.2.2.2.2.2.2.1
theorem zq_C2 {u : zU} (h : zU1 u) : zuC u 2 = 1443397788 := h.2.2.2.2.2.2.2.2.1
theorem zq_L0 {u : zU} (h : zU1 u) : zuL u 0 = 0 := h.2.2.2.2.2.2.2.2.2.1
theorem zq_L1 {u : zU} (h : zU1 u) : zuL u 1 = 0 := h.2.2.2.2.2.2.2.2.2.2.1
theorem zq_L2 {u : zU} (h : zU1 u) : zuL u 2 = 0 := h.2.2.2.2.2.2.2.2.2.2.2.1
theorem zq_P0 {u : zU} (h : zU1 u) : zuP u 0 = 0 := h.2.2.2.2.2.2.2.2.2.2.2.2.1
theorem zq_P1 {u : zU} (h : zU1 u) : zuP u 1 = 0 := h.2.2.2.2.2.2.2.2.2.2.2.2.2.1
theorem zq_P2 {u : zU} (h : zU1 u) : zuP u 2 = 0 := h.2.2.2.2.2.2.2.2.2.2.2.2.2.2.1
theorem zq_T0 {u : zU} (h : zU1 u) : zuT u 0 = 0 := h.2.2.2.2.2.2.2.2.2.2.2.2.2.2.2.1
theorem zq_T1 {u : zU} (h : zU1 u) : zuT u 1 = 0 := h.2.2.2.2.2.2.2.2.2.2.2.2.2.2.2.2.1
theorem zq_T2 {u : zU} (h : zU1 u) : zuT u 2 = 0 := h.2.2.2.2.2.2.2.2.2.2.2.2.2.2.2.2.2.1
theorem zq_O0 {u : zU} (h : zU1 u) : zuO u 0 = 0 := h.2.2.2.2.2.2.2.2.2.2.2.2.2.2.2.2.2.2.1
theorem zq_O1 {u : zU} (h : zU1 u) : zuO u 1 = 0 := h.2.2.2.2.2.2.2.2.2.2.2.2.2.2.2.2.2.2.2.1
theorem zq_O2 {u : zU} (h : zU1 u) : zuO u 2 = 0 := h.2.2.2.2.2.2.2.2.2.2.2.2.2.2.2.2.2.2.2.2
theorem zq_phase {u : zU} (h : zU1 u) : zf_X4_phase u = 0 := zq_I6 h
theorem zq_onTurn {u : zU} (h : zU1 u) : zf_X4_onTurn u = 1 := zq_I7 h
theorem zq_latestBid {u : zU} (h : zU1 u) : zf_X4_latestBid u = 0 := zq_I10 h
theorem zq_declarer {u : zU} (h : zU1 u) : zf_X4_declarer u = (-1) := zq_I11 h
theorem zq_contract {u : zU} (h : zU1 u) : zf_X4_contract u = (-1) := zq_I12 h
theorem zq_value {u : zU} (h : zU1 u) : (zf_X4_value u).1 = 2 := by
  unfold zf_X4_value
  rw [zq_I12 h, if_pos rfl]
theorem zq_playable {u : zU} (h : zU1 u) : (zf_X4_playable u).1 = 2 := by
  unfold zf_X4_playable
  rw [zq_I6 h, if_neg (by decide)]
theorem zq_putAway (u : zU) : (zf_X4_putAway u (-4) (-4)).1 = 3 := by
  unfold zf_X4_putAway
  rw [if_pos (by decide)]
theorem zq_announce (u : zU) : (zf_X4_announce u 19 (-3)).1 = 1 := by
  unfold zf_X4_announce
  rw [if_neg (by decide), if_pos (by decide)]
theorem zq_play {u : zU} (h : zU1 u) : (zf_X4_play u 2).1 = 2 := by
  unfold zf_X4_play
  rw [if_neg (by decide), zq_I6 h, if_neg (by decide)]
theorem zq_hand_0 {u : zU} (h : zU1 u) : zf_X4_hand u 0 = (0, 160842848, u) := by
  have e : zf_X4_hand u 0 = (0, zuC u 0, u) := rfl
  rw [e, zq_C0 h]
theorem zq_hand_1 {u : zU} (h : zU1 u) : zf_X4_hand u 1 = (0, 2690661122, u) := by
  have e : zf_X4_hand u 1 = (0, zuC u 1, u) := rfl
  rw [e, zq_C1 h]
theorem zq_hand_2 {u : zU} (h : zU1 u) : zf_X4_hand u 2 = (0, 1443397788, u) := by
  have e : zf_X4_hand u 2 = (0, zuC u 2, u) := rfl
  rw [e, zq_C2 h]
theorem zq_points_0 {u : zU} (h : zU1 u) : zf_X4_points u 0 = (0, 0, u) := by
  have e : zf_X4_points u 0 = (0, zuP u 0, u) := rfl
  rw [e, zq_P0 h]
theorem zq_points_1 {u : zU} (h : zU1 u) : zf_X4_points u 1 = (0, 0, u) := by
  have e : zf_X4_points u 1 = (0, zuP u 1, u) := rfl
  rw [e, zq_P1 h]
theorem zq_points_2 {u : zU} (h : zU1 u) : zf_X4_points u 2 = (0, 0, u) := by
  have e : zf_X4_points u 2 = (0, zuP u 2, u) := rfl
  rw [e, zq_P2 h]
theorem zq_tricks_0 {u : zU} (h : zU1 u) : zf_X4_tricks u 0 = (0, 0, u) := by
  have e : zf_X4_tricks u 0 = (0, zuT u 0, u) := rfl
  rw [e, zq_T0 h]
theorem zq_tricks_1 {u : zU} (h : zU1 u) : zf_X4_tricks u 1 = (0, 0, u) := by
  have e : zf_X4_tricks u 1 = (0, zuT u 1, u) := rfl
  rw [e, zq_T1 h]
theorem zq_tricks_2 {u : zU} (h : zU1 u) : zf_X4_tricks u 2 = (0, 0, u) := by
  have e : zf_X4_tricks u 2 = (0, zuT u 2, u) := rfl
  rw [e, zq_T2 h]
theorem zq_score_0 {u : zU} (h : zU1 u) : zf_X4_score u 0 = (0, 0, u) := by
  have e : zf_X4_score u 0 = (0, zuO u 0, u) := rfl
  rw [e, zq_O0 h]
theorem zq_score_1 {u : zU} (h : zU1 u) : zf_X4_score u 1 = (0, 0, u) := by
  have e : zf_X4_score u 1 = (0, zuO u 1, u) := rfl
  rw [e, zq_O1 h]
theorem zq_score_2 {u : zU} (h : zU1 u) : zf_X4_score u 2 = (0, 0, u) := by
  have e : zf_X4_score u 2 = (0, zuO u 2, u) := rfl
  rw [e, zq_O2 h]
theorem zq_inTrick_0 {u : zU} (h : zU1 u) : zf_X4_inTrick u 0 = (0, (-1), u) := by
  have e : zf_X4_inTrick u 0 = (0, zf_X3_cardAt u 0, u) := rfl
  rw [e]
  unfold zf_X3_cardAt
  rw [if_neg (by decide), zq_Z h, if_pos (by decide)]
theorem zq_cm_0 {u : zU} (h : zU1 u) : zf_X4_cardsForMatadors u 0 = 160842848 := by
  have e : zf_X4_cardsForMatadors u 0 = if (0 : Int32) = zuI u 11 then ((zuC u 0) ||| (zuL u 0)) ||| (zuK u) else (zuC u 0) ||| (zuL u 0) := rfl
  rw [e, zq_I11 h, if_neg (by decide), zq_C0 h, zq_L0 h]
  decide
theorem zq_matadors_0_0 {u : zU} (h : zU1 u) : zf_X4_matadors u 0 0 = (0, (-1), u) := by
  have e : zf_X4_matadors u 0 0 = (0, zf_X1_runOfTrumps (zf_X4_cardsForMatadors u 0) 0, u) := rfl
  rw [e, zq_cm_0 h, show zf_X1_runOfTrumps 160842848 0 = (-1) by decide +kernel]
theorem zq_matadors_0_1 {u : zU} (h : zU1 u) : zf_X4_matadors u 0 1 = (0, (-1), u) := by
  have e : zf_X4_matadors u 0 1 = (0, zf_X1_runOfTrumps (zf_X4_cardsForMatadors u 0) 1, u) := rfl
  rw [e, zq_cm_0 h, show zf_X1_runOfTrumps 160842848 1 = (-1) by decide +kernel]
theorem zq_matadors_0_2 {u : zU} (h : zU1 u) : zf_X4_matadors u 0 2 = (0, (-1), u) := by
  have e : zf_X4_matadors u 0 2 = (0, zf_X1_runOfTrumps (zf_X4_cardsForMatadors u 0) 2, u) := rfl
  rw [e, zq_cm_0 h, show zf_X1_runOfTrumps 160842848 2 = (-1) by decide +kernel]
theorem zq_matadors_0_3 {u : zU} (h : zU1 u) : zf_X4_matadors u 0 3 = (0, (-1), u) := by
  have e : zf_X4_matadors u 0 3 = (0, zf_X1_runOfTrumps (zf_X4_cardsForMatadors u 0) 3, u) := rfl
  rw [e, zq_cm_0 h, show zf_X1_runOfTrumps 160842848 3 = (-1) by decide +kernel]
theorem zq_matadors_0_4 {u : zU} (h : zU1 u) : zf_X4_matadors u 0 4 = (0, (-1), u) := by
  have e : zf_X4_matadors u 0 4 = (0, zf_X1_runOfTrumps (zf_X4_cardsForMatadors u 0) 4, u) := rfl
  rw [e, zq_cm_0 h, show zf_X1_runOfTrumps 160842848 4 = (-1) by decide +kernel]
theorem zq_inTrick_1 {u : zU} (h : zU1 u) : zf_X4_inTrick u 1 = (0, (-1), u) := by
  have e : zf_X4_inTrick u 1 = (0, zf_X3_cardAt u 1, u) := rfl
  rw [e]
  unfold zf_X3_cardAt
  rw [if_neg (by decide), zq_Z h, if_pos (by decide)]
theorem zq_cm_1 {u : zU} (h : zU1 u) : zf_X4_cardsForMatadors u 1 = 2690661122 := by
  have e : zf_X4_cardsForMatadors u 1 = if (1 : Int32) = zuI u 11 then ((zuC u 1) ||| (zuL u 1)) ||| (zuK u) else (zuC u 1) ||| (zuL u 1) := rfl
  rw [e, zq_I11 h, if_neg (by decide), zq_C1 h, zq_L1 h]
  decide
theorem zq_matadors_1_0 {u : zU} (h : zU1 u) : zf_X4_matadors u 1 0 = (0, 1, u) := by
  have e : zf_X4_matadors u 1 0 = (0, zf_X1_runOfTrumps (zf_X4_cardsForMatadors u 1) 0, u) := rfl
  rw [e, zq_cm_1 h, show zf_X1_runOfTrumps 2690661122 0 = 1 by decide +kernel]
theorem zq_matadors_1_1 {u : zU} (h : zU1 u) : zf_X4_matadors u 1 1 = (0, 1, u) := by
  have e : zf_X4_matadors u 1 1 = (0, zf_X1_runOfTrumps (zf_X4_cardsForMatadors u 1) 1, u) := rfl
  rw [e, zq_cm_1 h, show zf_X1_runOfTrumps 2690661122 1 = 1 by decide +kernel]
theorem zq_matadors_1_2 {u : zU} (h : zU1 u) : zf_X4_matadors u 1 2 = (0, 1, u) := by
  have e : zf_X4_matadors u 1 2 = (0, zf_X1_runOfTrumps (zf_X4_cardsForMatadors u 1) 2, u) := rfl
  rw [e, zq_cm_1 h, show zf_X1_runOfTrumps 2690661122 2 = 1 by decide +kernel]
theorem zq_matadors_1_3 {u : zU} (h : zU1 u) : zf_X4_matadors u 1 3 = (0, 1, u) := by
  have e : zf_X4_matadors u 1 3 = (0, zf_X1_runOfTrumps (zf_X4_cardsForMatadors u 1) 3, u) := rfl
  rw [e, zq_cm_1 h, show zf_X1_runOfTrumps 2690661122 3 = 1 by decide +kernel]
theorem zq_matadors_1_4 {u : zU} (h : zU1 u) : zf_X4_matadors u 1 4 = (0, 1, u) := by
  have e : zf_X4_matadors u 1 4 = (0, zf_X1_runOfTrumps (zf_X4_cardsForMatadors u 1) 4, u) := rfl
  rw [e, zq_cm_1 h, show zf_X1_runOfTrumps 2690661122 4 = 1 by decide +kernel]
theorem zq_inTrick_2 {u : zU} (h : zU1 u) : zf_X4_inTrick u 2 = (0, (-1), u) := by
  have e : zf_X4_inTrick u 2 = (0, zf_X3_cardAt u 2, u) := rfl
  rw [e]
  unfold zf_X3_cardAt
  rw [if_neg (by decide), zq_Z h, if_pos (by decide)]
theorem zq_cm_2 {u : zU} (h : zU1 u) : zf_X4_cardsForMatadors u 2 = 1443397788 := by
  have e : zf_X4_cardsForMatadors u 2 = if (2 : Int32) = zuI u 11 then ((zuC u 2) ||| (zuL u 2)) ||| (zuK u) else (zuC u 2) ||| (zuL u 2) := rfl
  rw [e, zq_I11 h, if_neg (by decide), zq_C2 h, zq_L2 h]
  decide
theorem zq_matadors_2_0 {u : zU} (h : zU1 u) : zf_X4_matadors u 2 0 = (0, (-2), u) := by
  have e : zf_X4_matadors u 2 0 = (0, zf_X1_runOfTrumps (zf_X4_cardsForMatadors u 2) 0, u) := rfl
  rw [e, zq_cm_2 h, show zf_X1_runOfTrumps 1443397788 0 = (-2) by decide +kernel]
theorem zq_matadors_2_1 {u : zU} (h : zU1 u) : zf_X4_matadors u 2 1 = (0, (-2), u) := by
  have e : zf_X4_matadors u 2 1 = (0, zf_X1_runOfTrumps (zf_X4_cardsForMatadors u 2) 1, u) := rfl
  rw [e, zq_cm_2 h, show zf_X1_runOfTrumps 1443397788 1 = (-2) by decide +kernel]
theorem zq_matadors_2_2 {u : zU} (h : zU1 u) : zf_X4_matadors u 2 2 = (0, (-2), u) := by
  have e : zf_X4_matadors u 2 2 = (0, zf_X1_runOfTrumps (zf_X4_cardsForMatadors u 2) 2, u) := rfl
  rw [e, zq_cm_2 h, show zf_X1_runOfTrumps 1443397788 2 = (-2) by decide +kernel]
theorem zq_matadors_2_3 {u : zU} (h : zU1 u) : zf_X4_matadors u 2 3 = (0, (-2), u) := by
  have e : zf_X4_matadors u 2 3 = (0, zf_X1_runOfTrumps (zf_X4_cardsForMatadors u 2) 3, u) := rfl
  rw [e, zq_cm_2 h, show zf_X1_runOfTrumps 1443397788 3 = (-2) by decide +kernel]
theorem zq_matadors_2_4 {u : zU} (h : zU1 u) : zf_X4_matadors u 2 4 = (0, (-2), u) := by
  have e : zf_X4_matadors u 2 4 = (0, zf_X1_runOfTrumps (zf_X4_cardsForMatadors u 2) 4, u) := rfl
  rw [e, zq_cm_2 h, show zf_X1_runOfTrumps 1443397788 4 = (-2) by decide +kernel]
theorem zU1_start : zU1 (zf_X4_startDeal (zuI1 zu0 5 0) 0) := ⟨by decide +kernel, by decide +kernel, by decide +kernel, by decide +kernel, by decide +kernel, by decide +kernel, by decide +kernel, by decide +kernel, by decide +kernel, by decide +kernel, by decide +kernel, by decide +kernel, by decide +kernel, by decide +kernel, by decide +kernel, by decide +kernel, by decide +kernel, by decide +kernel, by decide +kernel, by decide +kernel, by decide +kernel⟩
