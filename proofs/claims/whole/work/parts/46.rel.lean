/-! the relation of the two machines, and what each step keeps -/
def zRel (n : Nat) (u : zU) (v : zN) : Prop := zuK u = zmK v
theorem zRel_le {n k : Nat} {u : zU} {v : zN} (h : zRel n u v) (hk : n ≤ k) : zRel k u v := by
  sorry
theorem zRel_init : zRel 0 (zf_X4_startDeal (zuI1 zu0 5 0) 0) (zf_X5_begins zv0 0) := by
  sorry
theorem zRel_T {n : Nat} {u : zU} {v : zN} (h : zRel n u v) : vp_in (zmI v 3) 3 := by
  sorry
theorem zRel_L {n : Nat} {u : zU} {v : zN} (h : zRel n u v) : vp_in (zmI v 18) 3 := by
  sorry
theorem zRel_I {n : Nat} {u : zU} {v : zN} (h : zRel n u v) : vp_in (zmI v 17) 3 := by
  sorry
theorem zRel_E2 {n : Nat} {u : zU} {v : zN} (h : zRel n u v) : zmI v 2 = 2 → vp_in (zmI v 12) 3 := by
  sorry
theorem zRel_E24 {n : Nat} {u : zU} {v : zN} (h : zRel n u v) : zmI v 2 = 2 ∨ zmI v 2 = 4 → vp_in (zmI v 12) 3 := by
  sorry
theorem zRel_E5 {n : Nat} {u : zU} {v : zN} (h : zRel n u v) : zmI v 2 = 5 → ¬ zmI v 13 = 6 → vp_in (zmI v 12) 3 := by
  sorry
theorem zRel_Ev {n : Nat} {u : zU} {v : zN} (h : zRel n u v) : ¬ zmI v 13 = 6 → ¬ zmI v 13 = (-1) → vp_in (zmI v 12) 3 := by
  sorry
theorem zRel_B {n : Nat} {u : zU} {v : zN} (h : zRel n u v) : ¬ zmI v 13 = (-9) := by
  sorry
theorem zSq_phase {n : Nat} {u : zU} {v : zN} (h : zRel n u v) (hn : n < 600) : zf_X4_phase u = (zf_X5_phase v).1 ∧ zRel (n + 1) u (zf_X5_phase v).2 := by
  sorry
theorem zSq_onTurn {n : Nat} {u : zU} {v : zN} (h : zRel n u v) (hn : n < 600) : zf_X4_onTurn u = (zf_X5_onTurn v).1 ∧ zRel (n + 1) u (zf_X5_onTurn v).2 := by
  sorry
theorem zSq_latestBid {n : Nat} {u : zU} {v : zN} (h : zRel n u v) (hn : n < 600) : zf_X4_latestBid u = (zf_X5_latestBid v).1 ∧ zRel (n + 1) u (zf_X5_latestBid v).2 := by
  sorry
theorem zSq_declarer {n : Nat} {u : zU} {v : zN} (h : zRel n u v) (hn : n < 600) : zf_X4_declarer u = (zf_X5_declarer v).1 ∧ zRel (n + 1) u (zf_X5_declarer v).2 := by
  sorry
theorem zSq_contract {n : Nat} {u : zU} {v : zN} (h : zRel n u v) (hn : n < 600) : zf_X4_contract u = (zf_X5_contract v).1 ∧ zRel (n + 1) u (zf_X5_contract v).2 := by
  sorry
theorem zSo_deal {n : Nat} {w : zU × (Nat → Int64)} {v : zN} {p0 : Int32} (h : zRel n w.1 v) (hn : n < 600) : (zw_deal w p0).1 = zmI (zf_X5_deal v p0).2 0 ∧ ((zw_deal w p0).1 = 0 → (zw_deal w p0).2.2 0 = (zf_X5_deal v p0).1.toInt64) ∧ zRel (n + 1) (zw_deal w p0).2.1 (zf_X5_deal v p0).2 := by
  sorry
theorem zSo_bid {n : Nat} {w : zU × (Nat → Int64)} {v : zN} {p0 : Int32} (h : zRel n w.1 v) (hn : n < 600) : (zw_bid w p0).1 = zmI (zf_X5_bid v p0).2 0 ∧ ((zw_bid w p0).1 = 0 → (zw_bid w p0).2.2 0 = (zf_X5_bid v p0).1.toInt64) ∧ zRel (n + 1) (zw_bid w p0).2.1 (zf_X5_bid v p0).2 := by
  sorry
theorem zSo_hold {n : Nat} {w : zU × (Nat → Int64)} {v : zN} (h : zRel n w.1 v) (hn : n < 600) : (zw_hold w).1 = zmI (zf_X5_hold v).2 0 ∧ ((zw_hold w).1 = 0 → (zw_hold w).2.2 0 = (zf_X5_hold v).1.toInt64) ∧ zRel (n + 1) (zw_hold w).2.1 (zf_X5_hold v).2 := by
  sorry
theorem zSo_pass {n : Nat} {w : zU × (Nat → Int64)} {v : zN} (h : zRel n w.1 v) (hn : n < 600) : (zw_pass w).1 = zmI (zf_X5_pass v).2 0 ∧ ((zw_pass w).1 = 0 → (zw_pass w).2.2 0 = (zf_X5_pass v).1.toInt64) ∧ zRel (n + 1) (zw_pass w).2.1 (zf_X5_pass v).2 := by
  sorry
theorem zSo_nextBid {n : Nat} {w : zU × (Nat → Int64)} {v : zN} {p0 : Int32} (h : zRel n w.1 v) (hn : n < 600) : (zw_nextBid w p0).1 = zmI (zf_X5_nextBid v p0).2 0 ∧ ((zw_nextBid w p0).1 = 0 → (zw_nextBid w p0).2.2 0 = (zf_X5_nextBid v p0).1.toInt64) ∧ zRel (n + 1) (zw_nextBid w p0).2.1 (zf_X5_nextBid v p0).2 := by
  sorry
theorem zSo_takeSkat {n : Nat} {w : zU × (Nat → Int64)} {v : zN} (h : zRel n w.1 v) (hn : n < 600) : (zw_takeSkat w).1 = zmI (zf_X5_takeSkat v).2 0 ∧ ((zw_takeSkat w).1 = 0 → (zw_takeSkat w).2.2 0 = (zf_X5_takeSkat v).1) ∧ zRel (n + 1) (zw_takeSkat w).2.1 (zf_X5_takeSkat v).2 := by
  sorry
theorem zSo_putAway {n : Nat} {w : zU × (Nat → Int64)} {v : zN} {p0 : Int32} {p1 : Int32} (h : zRel n w.1 v) (hn : n < 600) : (zw_putAway w p0 p1).1 = zmI (zf_X5_putAway v p0 p1).2 0 ∧ ((zw_putAway w p0 p1).1 = 0 → (zw_putAway w p0 p1).2.2 0 = (zf_X5_putAway v p0 p1).1.toInt64) ∧ zRel (n + 1) (zw_putAway w p0 p1).2.1 (zf_X5_putAway v p0 p1).2 := by
  sorry
theorem zSo_announce {n : Nat} {w : zU × (Nat → Int64)} {v : zN} {p0 : Int32} {p1 : Int32} (h : zRel n w.1 v) (hn : n < 600) : (zw_announce w p0 p1).1 = zmI (zf_X5_announce v p0 p1).2 0 ∧ ((zw_announce w p0 p1).1 = 0 → (zw_announce w p0 p1).2.2 0 = (zf_X5_announce v p0 p1).1.toInt64) ∧ zRel (n + 1) (zw_announce w p0 p1).2.1 (zf_X5_announce v p0 p1).2 := by
  sorry
theorem zSo_matadors {n : Nat} {w : zU × (Nat → Int64)} {v : zN} {p0 : Int32} {p1 : Int32} (h : zRel n w.1 v) (hn : n < 600) : (zw_matadors w p0 p1).1 = zmI (zf_X5_matadors v p0 p1).2 0 ∧ ((zw_matadors w p0 p1).1 = 0 → (zw_matadors w p0 p1).2.2 0 = (zf_X5_matadors v p0 p1).1.toInt64) ∧ zRel (n + 1) (zw_matadors w p0 p1).2.1 (zf_X5_matadors v p0 p1).2 := by
  sorry
theorem zSo_playable {n : Nat} {w : zU × (Nat → Int64)} {v : zN} (h : zRel n w.1 v) (hn : n < 600) : (zw_playable w).1 = zmI (zf_X5_playable v).2 0 ∧ ((zw_playable w).1 = 0 → (zw_playable w).2.2 0 = (zf_X5_playable v).1) ∧ zRel (n + 1) (zw_playable w).2.1 (zf_X5_playable v).2 := by
  sorry
theorem zSo_play {n : Nat} {w : zU × (Nat → Int64)} {v : zN} {p0 : Int32} (h : zRel n w.1 v) (hn : n < 600) : (zw_play w p0).1 = zmI (zf_X5_play v p0).2 0 ∧ ((zw_play w p0).1 = 0 → (zw_play w p0).2.2 0 = (zf_X5_play v p0).1.toInt64) ∧ zRel (n + 1) (zw_play w p0).2.1 (zf_X5_play v p0).2 := by
  sorry
theorem zSo_hand {n : Nat} {w : zU × (Nat → Int64)} {v : zN} {p0 : Int32} (h : zRel n w.1 v) (hn : n < 600) : (zw_hand w p0).1 = zmI (zf_X5_hand v p0).2 0 ∧ ((zw_hand w p0).1 = 0 → (zw_hand w p0).2.2 0 = (zf_X5_hand v p0).1) ∧ zRel (n + 1) (zw_hand w p0).2.1 (zf_X5_hand v p0).2 := by
  sorry
theorem zSo_inTrick {n : Nat} {w : zU × (Nat → Int64)} {v : zN} {p0 : Int32} (h : zRel n w.1 v) (hn : n < 600) : (zw_inTrick w p0).1 = zmI (zf_X5_inTrick v p0).2 0 ∧ ((zw_inTrick w p0).1 = 0 → (zw_inTrick w p0).2.2 0 = (zf_X5_inTrick v p0).1.toInt64) ∧ zRel (n + 1) (zw_inTrick w p0).2.1 (zf_X5_inTrick v p0).2 := by
  sorry
theorem zSo_points {n : Nat} {w : zU × (Nat → Int64)} {v : zN} {p0 : Int32} (h : zRel n w.1 v) (hn : n < 600) : (zw_points w p0).1 = zmI (zf_X5_points v p0).2 0 ∧ ((zw_points w p0).1 = 0 → (zw_points w p0).2.2 0 = (zf_X5_points v p0).1.toInt64) ∧ zRel (n + 1) (zw_points w p0).2.1 (zf_X5_points v p0).2 := by
  sorry
theorem zSo_tricks {n : Nat} {w : zU × (Nat → Int64)} {v : zN} {p0 : Int32} (h : zRel n w.1 v) (hn : n < 600) : (zw_tricks w p0).1 = zmI (zf_X5_tricks v p0).2 0 ∧ ((zw_tricks w p0).1 = 0 → (zw_tricks w p0).2.2 0 = (zf_X5_tricks v p0).1.toInt64) ∧ zRel (n + 1) (zw_tricks w p0).2.1 (zf_X5_tricks v p0).2 := by
  sorry
theorem zSo_value {n : Nat} {w : zU × (Nat → Int64)} {v : zN} (h : zRel n w.1 v) (hn : n < 600) : (zw_value w).1 = zmI (zf_X5_value v).2 0 ∧ ((zw_value w).1 = 0 → (zw_value w).2.2 0 = (zf_X5_value v).1.toInt64) ∧ zRel (n + 1) (zw_value w).2.1 (zf_X5_value v).2 := by
  sorry
theorem zSo_score {n : Nat} {w : zU × (Nat → Int64)} {v : zN} {p0 : Int32} (h : zRel n w.1 v) (hn : n < 600) : (zw_score w p0).1 = zmI (zf_X5_score v p0).2 0 ∧ ((zw_score w p0).1 = 0 → (zw_score w p0).2.2 0 = (zf_X5_score v p0).1.toInt64) ∧ zRel (n + 1) (zw_score w p0).2.1 (zf_X5_score v p0).2 := by
  sorry
