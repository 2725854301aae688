set_option maxHeartbeats 1000000
/-! the relation of the two machines, and what each step keeps -/
def zBid (u : zU) (v : zN) : Prop := (zmI v 2 = 0 → zmI v 3 = zmI v 8) ∧ (zmI v 2 = 1 → zmI v 3 = zmI v 9) ∧ zuI u 8 = zmI v 8 ∧ vp_in (zmI v 8) 3 ∧ ((zmI v 10 = 0 ∧ vp_in (zmI v 9) 3 ∧ zuI u 9 = zmI v 9 ∧ ¬ zmI v 8 = zf_X4_playerAfter (zf_X4_playerAfter (zuI u 5))) ∨ (zmI v 10 = 1 ∧ vp_in (zmI v 9) 3 ∧ zuI u 9 = zmI v 9 ∧ zmI v 8 = zf_X4_playerAfter (zf_X4_playerAfter (zuI u 5))) ∨ (zmI v 10 = 2 ∧ zmI v 2 = 0 ∧ zuI u 9 = -1))
def zRel (n : Nat) (u : zU) (v : zN) : Prop := (∀ j, j < 3 → zuC u j = zmC v j) ∧ (∀ j, j < 3 → zuL u j = zmL v j) ∧ (∀ j, j < 3 → zuP u j = zmP v j) ∧ (∀ j, j < 3 → zuT u j = zmT v j) ∧ (∀ j, j < 3 → zuO u j = zmO v j) ∧ (∀ j, j < 3 → zuR u j = zmR v j) ∧ (zuK u = zmK v) ∧ (zuZ u = zmI v 17) ∧ (zuI u 6 = zmI v 2) ∧ (zuI u 10 = zmI v 11) ∧ (zuI u 11 = zmI v 12) ∧ (zuI u 12 = zmI v 13) ∧ (zuI u 13 = zmI v 14) ∧ (zuI u 14 = zmI v 15) ∧ (∃ d, d ≤ n ∧ zmI v 1 = nI d ∧ zuI u 5 = nI (d % 3)) ∧ (zuI u 7 = if zmI v 2 = 6 then -1 else zmI v 3) ∧ (vp_in (zmI v 3) 3) ∧ (vp_in (zmI v 18) 3) ∧ (vp_in (zmI v 17) 3) ∧ (¬ zmI v 2 = 5 → zmI v 17 = 0) ∧ (zmI v 2 = 0 ∨ zmI v 2 = 1 → zBid u v) ∧ (zmI v 2 = 2 ∨ zmI v 2 = 3 ∨ zmI v 2 = 4 → zmI v 3 = zmI v 12) ∧ (zmI v 13 = -1 ∨ zmI v 13 = 6 ∨ ∃ c, c < 6 ∧ zmI v 13 = nI c ∧ vp_in (zmI v 12) 3) ∧ (zmI v 2 = 5 → ¬ zmI v 13 = -1 ∧ ∃ a k, a < 3 ∧ k < 3 ∧ zmI v 18 = nI a ∧ zmI v 17 = nI k ∧ zmI v 3 = nI ((a + k) % 3) ∧ ∀ j, j < k → ∃ r, r < 32 ∧ zmR v j = nI r)
theorem zRel_C {n : Nat} {u : zU} {v : zN} (h : zRel n u v) : ∀ j, j < 3 → zuC u j = zmC v j := h.1
theorem zRel_Ld {n : Nat} {u : zU} {v : zN} (h : zRel n u v) : ∀ j, j < 3 → zuL u j = zmL v j := h.2.1
theorem zRel_P {n : Nat} {u : zU} {v : zN} (h : zRel n u v) : ∀ j, j < 3 → zuP u j = zmP v j := h.2.2.1
theorem zRel_Tr {n : Nat} {u : zU} {v : zN} (h : zRel n u v) : ∀ j, j < 3 → zuT u j = zmT v j := h.2.2.2.1
theorem zRel_O {n : Nat} {u : zU} {v : zN} (h : zRel n u v) : ∀ j, j < 3 → zuO u j = zmO v j := h.2.2.2.2.1
theorem zRel_R {n : Nat} {u : zU} {v : zN} (h : zRel n u v) : ∀ j, j < 3 → zuR u j = zmR v j := h.2.2.2.2.2.1
theorem zRel_K {n : Nat} {u : zU} {v : zN} (h : zRel n u v) : zuK u = zmK v := h.2.2.2.2.2.2.1
theorem zRel_Z {n : Nat} {u : zU} {v : zN} (h : zRel n u v) : zuZ u = zmI v 17 := h.2.2.2.2.2.2.2.1
theorem zRel_ph {n : Nat} {u : zU} {v : zN} (h : zRel n u v) : zuI u 6 = zmI v 2 := h.2.2.2.2.2.2.2.2.1
theorem zRel_lb {n : Nat} {u : zU} {v : zN} (h : zRel n u v) : zuI u 10 = zmI v 11 := h.2.2.2.2.2.2.2.2.2.1
theorem zRel_de {n : Nat} {u : zU} {v : zN} (h : zRel n u v) : zuI u 11 = zmI v 12 := h.2.2.2.2.2.2.2.2.2.2.1
theorem zRel_co {n : Nat} {u : zU} {v : zN} (h : zRel n u v) : zuI u 12 = zmI v 13 := h.2.2.2.2.2.2.2.2.2.2.2.1
theorem zRel_ex {n : Nat} {u : zU} {v : zN} (h : zRel n u v) : zuI u 13 = zmI v 14 := h.2.2.2.2.2.2.2.2.2.2.2.2.1
theorem zRel_hg {n : Nat} {u : zU} {v : zN} (h : zRel n u v) : zuI u 14 = zmI v 15 := h.2.2.2.2.2.2.2.2.2.2.2.2.2.1
theorem zRel_fh {n : Nat} {u : zU} {v : zN} (h : zRel n u v) : ∃ d, d ≤ n ∧ zmI v 1 = nI d ∧ zuI u 5 = nI (d % 3) := h.2.2.2.2.2.2.2.2.2.2.2.2.2.2.1
theorem zRel_ot {n : Nat} {u : zU} {v : zN} (h : zRel n u v) : zuI u 7 = if zmI v 2 = 6 then -1 else zmI v 3 := h.2.2.2.2.2.2.2.2.2.2.2.2.2.2.2.1
theorem zRel_T {n : Nat} {u : zU} {v : zN} (h : zRel n u v) : vp_in (zmI v 3) 3 := h.2.2.2.2.2.2.2.2.2.2.2.2.2.2.2.2.1
theorem zRel_L {n : Nat} {u : zU} {v : zN} (h : zRel n u v) : vp_in (zmI v 18) 3 := h.2.2.2.2.2.2.2.2.2.2.2.2.2.2.2.2.2.1
theorem zRel_I {n : Nat} {u : zU} {v : zN} (h : zRel n u v) : vp_in (zmI v 17) 3 := h.2.2.2.2.2.2.2.2.2.2.2.2.2.2.2.2.2.2.1
theorem zRel_z0 {n : Nat} {u : zU} {v : zN} (h : zRel n u v) : ¬ zmI v 2 = 5 → zmI v 17 = 0 := h.2.2.2.2.2.2.2.2.2.2.2.2.2.2.2.2.2.2.2.1
theorem zRel_bd {n : Nat} {u : zU} {v : zN} (h : zRel n u v) : zmI v 2 = 0 ∨ zmI v 2 = 1 → zBid u v := h.2.2.2.2.2.2.2.2.2.2.2.2.2.2.2.2.2.2.2.2.1
theorem zRel_dc {n : Nat} {u : zU} {v : zN} (h : zRel n u v) : zmI v 2 = 2 ∨ zmI v 2 = 3 ∨ zmI v 2 = 4 → zmI v 3 = zmI v 12 := h.2.2.2.2.2.2.2.2.2.2.2.2.2.2.2.2.2.2.2.2.2.1
theorem zRel_cn {n : Nat} {u : zU} {v : zN} (h : zRel n u v) : zmI v 13 = -1 ∨ zmI v 13 = 6 ∨ ∃ c, c < 6 ∧ zmI v 13 = nI c ∧ vp_in (zmI v 12) 3 := h.2.2.2.2.2.2.2.2.2.2.2.2.2.2.2.2.2.2.2.2.2.2.1
theorem zRel_p5 {n : Nat} {u : zU} {v : zN} (h : zRel n u v) : zmI v 2 = 5 → ¬ zmI v 13 = -1 ∧ ∃ a k, a < 3 ∧ k < 3 ∧ zmI v 18 = nI a ∧ zmI v 17 = nI k ∧ zmI v 3 = nI ((a + k) % 3) ∧ ∀ j, j < k → ∃ r, r < 32 ∧ zmR v j = nI r := h.2.2.2.2.2.2.2.2.2.2.2.2.2.2.2.2.2.2.2.2.2.2.2
theorem zRel_mk {n : Nat} {u : zU} {v : zN} (hC : ∀ j, j < 3 → zuC u j = zmC v j) (hLd : ∀ j, j < 3 → zuL u j = zmL v j) (hP : ∀ j, j < 3 → zuP u j = zmP v j) (hTr : ∀ j, j < 3 → zuT u j = zmT v j) (hO : ∀ j, j < 3 → zuO u j = zmO v j) (hR : ∀ j, j < 3 → zuR u j = zmR v j) (hK : zuK u = zmK v) (hZ : zuZ u = zmI v 17) (hph : zuI u 6 = zmI v 2) (hlb : zuI u 10 = zmI v 11) (hde : zuI u 11 = zmI v 12) (hco : zuI u 12 = zmI v 13) (hex : zuI u 13 = zmI v 14) (hhg : zuI u 14 = zmI v 15) (hfh : ∃ d, d ≤ n ∧ zmI v 1 = nI d ∧ zuI u 5 = nI (d % 3)) (hot : zuI u 7 = if zmI v 2 = 6 then -1 else zmI v 3) (hT : vp_in (zmI v 3) 3) (hL : vp_in (zmI v 18) 3) (hI : vp_in (zmI v 17) 3) (hz0 : ¬ zmI v 2 = 5 → zmI v 17 = 0) (hbd : zmI v 2 = 0 ∨ zmI v 2 = 1 → zBid u v) (hdc : zmI v 2 = 2 ∨ zmI v 2 = 3 ∨ zmI v 2 = 4 → zmI v 3 = zmI v 12) (hcn : zmI v 13 = -1 ∨ zmI v 13 = 6 ∨ ∃ c, c < 6 ∧ zmI v 13 = nI c ∧ vp_in (zmI v 12) 3) (hp5 : zmI v 2 = 5 → ¬ zmI v 13 = -1 ∧ ∃ a k, a < 3 ∧ k < 3 ∧ zmI v 18 = nI a ∧ zmI v 17 = nI k ∧ zmI v 3 = nI ((a + k) % 3) ∧ ∀ j, j < k → ∃ r, r < 32 ∧ zmR v j = nI r) : zRel n u v := ⟨hC, hLd, hP, hTr, hO, hR, hK, hZ, hph, hlb, hde, hco, hex, hhg, hfh, hot, hT, hL, hI, hz0, hbd, hdc, hcn, hp5⟩
theorem zRel_le {n k : Nat} {u : zU} {v : zN} (h : zRel n u v) (hk : n ≤ k) : zRel k u v := by
  obtain ⟨d, h1, h2⟩ := zRel_fh h
  exact zRel_mk (zRel_C h) (zRel_Ld h) (zRel_P h) (zRel_Tr h) (zRel_O h) (zRel_R h) (zRel_K h) (zRel_Z h) (zRel_ph h) (zRel_lb h) (zRel_de h) (zRel_co h) (zRel_ex h) (zRel_hg h) ⟨d, by omega, h2⟩ (zRel_ot h) (zRel_T h) (zRel_L h) (zRel_I h) (zRel_z0 h) (zRel_bd h) (zRel_dc h) (zRel_cn h) (zRel_p5 h)
theorem zRel_t {n : Nat} {u : zU} {v : zN} {x : Int32} (h : zRel n u v) : zRel (n + 1) u (zmI1 v 0 x) := zRel_le (k := n + 1) (v := zmI1 v 0 x) (n := n) h (by omega)
theorem zRel_B {n : Nat} {u : zU} {v : zN} (h : zRel n u v) : ¬ zmI v 13 = (-9) := by
  rcases zRel_cn h with e | e | ⟨c, hc, e, -⟩
  · rw [e]; decide
  · rw [e]; decide
  · rw [e]
    intro e1
    have e2 := congrArg Int32.toInt e1
    rw [nI_toInt (by omega), show (-9 : Int32).toInt = -9 by decide] at e2
    omega
theorem zRel_Ev {n : Nat} {u : zU} {v : zN} (h : zRel n u v) : ¬ zmI v 13 = 6 → ¬ zmI v 13 = (-1) → vp_in (zmI v 12) 3 := by
  intro h6 h1
  rcases zRel_cn h with e | e | ⟨c, hc, e, h2⟩
  · exact absurd e h1
  · exact absurd e h6
  · exact h2
theorem zRel_E5 {n : Nat} {u : zU} {v : zN} (h : zRel n u v) : zmI v 2 = 5 → ¬ zmI v 13 = 6 → vp_in (zmI v 12) 3 := fun h5 h6 => zRel_Ev h h6 (zRel_p5 h h5).1
theorem zRel_E2 {n : Nat} {u : zU} {v : zN} (h : zRel n u v) : zmI v 2 = 2 → vp_in (zmI v 12) 3 := fun h2 => by
  rw [← zRel_dc h (Or.inl h2)]; exact zRel_T h
theorem zRel_E24 {n : Nat} {u : zU} {v : zN} (h : zRel n u v) : zmI v 2 = 2 ∨ zmI v 2 = 4 → vp_in (zmI v 12) 3 := fun h2 => by
  rw [← zRel_dc h (h2.elim Or.inl (fun z => Or.inr (Or.inr z)))]; exact zRel_T h
/-! the ways a step ends -/
theorem zErr {n : Nat} {w : zU × (Nat → Int64)} {v : zN} {zw : Int32 × (zU × (Nat → Int64))} {y : Int32 × zN} {k x : Int32} (h : zRel n w.1 v) (hk : ¬ k = 0) (hz : zw = (k, w)) (hy : y = (x, zmI1 v 0 k)) : zw.1 = zmI y.2 0 ∧ (zw.1 = 0 → zw.2.2 0 = y.1.toInt64) ∧ zRel (n + 1) zw.2.1 y.2 := by
  rw [hz, hy]; exact ⟨rfl, fun h0 => absurd h0 hk, zRel_t h⟩
theorem zErrL {n : Nat} {w : zU × (Nat → Int64)} {v : zN} {zw : Int32 × (zU × (Nat → Int64))} {y : Int64 × zN} {k : Int32} {x : Int64} (h : zRel n w.1 v) (hk : ¬ k = 0) (hz : zw = (k, w)) (hy : y = (x, zmI1 v 0 k)) : zw.1 = zmI y.2 0 ∧ (zw.1 = 0 → zw.2.2 0 = y.1) ∧ zRel (n + 1) zw.2.1 y.2 := by
  rw [hz, hy]; exact ⟨rfl, fun h0 => absurd h0 hk, zRel_t h⟩
theorem zOk {n : Nat} {u' : zU} {f : Nat → Int64} {v' : zN} {zw : Int32 × (zU × (Nat → Int64))} {y : Int32 × zN} {x : Int32} (hz : zw = (0, (u', vp_updL f 0 x.toInt64))) (hy : y = (x, v')) (h0 : zmI v' 0 = 0) (h : zRel (n + 1) u' v') : zw.1 = zmI y.2 0 ∧ (zw.1 = 0 → zw.2.2 0 = y.1.toInt64) ∧ zRel (n + 1) zw.2.1 y.2 := by
  rw [hz, hy]; exact ⟨h0.symm, fun _ => rfl, h⟩
theorem zOkL {n : Nat} {u' : zU} {f : Nat → Int64} {v' : zN} {zw : Int32 × (zU × (Nat → Int64))} {y : Int64 × zN} {x : Int64} (hz : zw = (0, (u', vp_updL f 0 x))) (hy : y = (x, v')) (h0 : zmI v' 0 = 0) (h : zRel (n + 1) u' v') : zw.1 = zmI y.2 0 ∧ (zw.1 = 0 → zw.2.2 0 = y.1) ∧ zRel (n + 1) zw.2.1 y.2 := by
  rw [hz, hy]; exact ⟨h0.symm, fun _ => rfl, h⟩
/-! numbers that are players, contracts, cards -/
theorem zrange (p : Int32) (N : Nat) (hN : N < 1000) : (p < 0 ∧ zf_X5_in p 0 (nI N) = 0) ∨ (nI N < p ∧ ¬ p < 0 ∧ zf_X5_in p 0 (nI N) = 0) ∨ ∃ j, j ≤ N ∧ p = nI j ∧ ¬ p < 0 ∧ ¬ nI N < p ∧ zf_X5_in p 0 (nI N) = 1 := by
  unfold zf_X5_in
  by_cases h : p < 0
  · exact Or.inl ⟨h, if_pos h⟩
  · by_cases h2 : nI N < p
    · exact Or.inr (Or.inl ⟨h2, h, by rw [if_neg h, if_pos h2]⟩)
    · obtain ⟨j, hj, rfl⟩ := nI_of h
      rw [nI_ltI (by omega) hj] at h2
      exact Or.inr (Or.inr ⟨j, by omega, rfl, h, by rw [nI_ltI (by omega) hj]; exact h2, by rw [if_neg h, if_neg (by rw [nI_ltI (by omega) hj]; exact h2)]⟩)
theorem zpl (p : Int32) : ((∃ j, j < 3 ∧ p = nI j) ∧ (∀ u, zf_X4_refuseNoPlayer u p = (0, u)) ∧ zf_X5_in p 0 2 = 1) ∨ ((∀ u, zf_X4_refuseNoPlayer u p = (3, u)) ∧ zf_X5_in p 0 2 = 0) := by
  rcases zrange p 2 (by decide) with ⟨h, h1⟩ | ⟨h, h0, h1⟩ | ⟨j, hj, rfl, h0, h2, h1⟩
  · exact Or.inr ⟨fun u => if_pos h, h1⟩
  · refine Or.inr ⟨fun u => ?_, h1⟩
    unfold zf_X4_refuseNoPlayer
    have h3 : ¬ p < 3 := fun q => by
      rw [Int32.lt_iff_toInt_lt] at h q
      have e2 : (nI 2).toInt = 2 := by decide
      have e3 : (3 : Int32).toInt = 3 := by decide
      omega
    rw [if_neg h0, if_neg h3]
  · refine Or.inl ⟨⟨j, by omega, rfl⟩, fun u => ?_, h1⟩
    unfold zf_X4_refuseNoPlayer
    rw [if_neg h0, if_pos (by rw [show (3 : Int32) = nI 3 from rfl, nI_ltI (by omega) (by omega)]; omega)]
theorem zcd (p : Int32) : (∃ j, j < 32 ∧ p = nI j ∧ zf_X4_isCard p = 1 ∧ zf_X5_in p 0 31 = 1) ∨ (zf_X4_isCard p = 0 ∧ zf_X5_in p 0 31 = 0) := by
  unfold zf_X4_isCard
  rcases zrange p 31 (by decide) with ⟨h, h1⟩ | ⟨h, h0, h1⟩ | ⟨j, hj, rfl, h0, h2, h1⟩
  · exact Or.inr ⟨if_pos h, h1⟩
  · refine Or.inr ⟨?_, h1⟩
    have h3 : (32 : Int32) ≤ p := by
      rw [Int32.lt_iff_toInt_lt] at h
      rw [Int32.le_iff_toInt_le]
      have e2 : (nI 31).toInt = 31 := by decide
      have e3 : (32 : Int32).toInt = 32 := by decide
      omega
    rw [if_neg h0, if_pos h3]
  · refine Or.inl ⟨j, by omega, rfl, ?_, h1⟩
    rw [if_neg h0, if_neg (by rw [show (32 : Int32) = nI 32 from rfl, nI_leI (by omega) (by omega)]; omega)]

theorem zSq_phase {n : Nat} {u : zU} {v : zN} (h : zRel n u v) (hn : n < 600) : zf_X4_phase u = (zf_X5_phase v).1 ∧ zRel (n + 1) u (zf_X5_phase v).2 := ⟨zRel_ph h, zRel_t h⟩
theorem zSq_latestBid {n : Nat} {u : zU} {v : zN} (h : zRel n u v) (hn : n < 600) : zf_X4_latestBid u = (zf_X5_latestBid v).1 ∧ zRel (n + 1) u (zf_X5_latestBid v).2 := ⟨zRel_lb h, zRel_t h⟩
theorem zSq_declarer {n : Nat} {u : zU} {v : zN} (h : zRel n u v) (hn : n < 600) : zf_X4_declarer u = (zf_X5_declarer v).1 ∧ zRel (n + 1) u (zf_X5_declarer v).2 := ⟨zRel_de h, zRel_t h⟩
theorem zSq_contract {n : Nat} {u : zU} {v : zN} (h : zRel n u v) (hn : n < 600) : zf_X4_contract u = (zf_X5_contract v).1 ∧ zRel (n + 1) u (zf_X5_contract v).2 := ⟨zRel_co h, zRel_t h⟩
theorem zSq_onTurn {n : Nat} {u : zU} {v : zN} (h : zRel n u v) (hn : n < 600) : zf_X4_onTurn u = (zf_X5_onTurn v).1 ∧ zRel (n + 1) u (zf_X5_onTurn v).2 := by
  unfold zf_X4_onTurn zf_X5_onTurn
  rw [zRel_ot h]
  by_cases h6 : zmI v 2 = 6
  · rw [if_pos h6, if_pos h6]; exact ⟨rfl, zRel_t h⟩
  · rw [if_neg h6, if_neg h6]; exact ⟨rfl, zRel_t h⟩
theorem zmat {n : Nat} {u : zU} {v : zN} {j : Nat} (h : zRel n u v) (hj : j < 3) (z : zN) (c : Int32) (e1 : ∀ j, zmC z j = zmC v j) (e2 : ∀ j, zmL z j = zmL v j) (e3 : zmK z = zmK v) (e4 : zmI z 12 = zmI v 12) : zf_X1_runOfTrumps (zf_X4_cardsForMatadors u (nI j)) c = zf_X5_gapless z (nI j) c := by
  unfold zf_X4_cardsForMatadors zf_X5_gapless
  rw [zrun z (nI j), zseat u (vp_in_nI hj (by omega)), nI_clamp (by omega), zRel_C h j hj, zRel_Ld h j hj, zRel_K h, zRel_de h, e1, e2, e3, e4]
  by_cases hd : nI j = zmI v 12
  · rw [if_pos hd, if_pos hd]
  · rw [if_neg hd, if_neg hd, zor_z]
theorem zplayable {n : Nat} {u : zU} {v z : zN} (h : zRel n u v) (h5 : zmI v 2 = 5) (e1 : ∀ j, zmC z j = zmC v j) (e2 : ∀ j, zmR z j = zmR v j) (e3 : zmI z 3 = zmI v 3) (e4 : zmI z 13 = zmI v 13) (e5 : zmI z 17 = zmI v 17) : zf_X4_playableCards u = zf_X5_open z := by
  obtain ⟨hc, a, k, ha, hk, h18, h17, h3, hr⟩ := zRel_p5 h h5
  have ht : zuI u 7 = zmI v 3 := by rw [zRel_ot h, if_neg (by rw [h5]; decide)]
  have hs : zuC u (zf_X4_seat u (zuI u 7)) = zmC z ((zmI z 3).toNatClampNeg) := by
    rw [ht, zseat u (zRel_T h), e1, e3, h3, nI_clamp (by omega), zRel_C h _ (by omega)]
  unfold zf_X4_playableCards zf_X3_isEmpty
  rw [zRel_Z h, h17, hs]
  by_cases hk0 : k = 0
  · subst hk0
    rw [if_pos (show nI 0 = 0 from nI_0), if_neg (by decide)]
    exact (zopen_0 z (by rw [e5, h17]; decide) 32 0).symm
  · have hn0 : ¬ nI k = 0 := nI_ne0 (by omega) (by omega)
    rw [if_neg hn0, if_pos rfl]
    obtain ⟨r, hr1, hr2⟩ := hr 0 (by omega)
    have hcard : zf_X3_cardAt u 0 = nI r := by
      unfold zf_X3_cardAt
      rw [if_neg (by decide), zRel_Z h, h17, if_neg (nI_nle (by omega) (by omega)), if_neg (by decide)]
      show zuR u 0 = nI r
      rw [zRel_R h 0 (by omega), hr2]
    have h13 : ∃ t, t < 7 ∧ zmI v 13 = nI t := by
      rcases zRel_cn h with e | e | ⟨c, hc1, e, -⟩
      · exact absurd e hc
      · exact ⟨6, by omega, e⟩
      · exact ⟨c, by omega, e⟩
    obtain ⟨t, ht7, h13⟩ := h13
    rw [zopen_1 z (by rw [e5, h17]; exact nI_nle (by omega) (by omega)) ht7 hr1 (by rw [e4, h13]) (by rw [e2, hr2]), hcard, zRel_co h, h13]
theorem zSo_points {n : Nat} {w : zU × (Nat → Int64)} {v : zN} {p0 : Int32} (h : zRel n w.1 v) (hn : n < 600) : (zw_points w p0).1 = zmI (zf_X5_points v p0).2 0 ∧ ((zw_points w p0).1 = 0 → (zw_points w p0).2.2 0 = (zf_X5_points v p0).1.toInt64) ∧ zRel (n + 1) (zw_points w p0).2.1 (zf_X5_points v p0).2 := by
  rcases zpl p0 with ⟨⟨j, hj, rfl⟩, h1, h2⟩ | ⟨h1, h2⟩
  · have hf : zf_X4_points w.1 (nI j) = (0, zmP v j, w.1) := by
      unfold zf_X4_points
      rw [h1, if_pos rfl, zseat w.1 (vp_in_nI hj (by omega)), nI_clamp (by omega), zRel_P h j hj]
    refine zOk (u' := w.1) (f := w.2) (v' := zmI1 v 0 0) (x := zmP v j) (by unfold zw_points; rw [hf]; rfl) ?_ rfl (zRel_t h)
    unfold zf_X5_points zf_X5_of5
    rw [h2, nI_clamp (by omega)]
    rfl
  · refine zErr (k := 1) (x := 0) h (by decide) ?_ ?_
    · unfold zw_points zf_X4_points
      rw [h1]
      rfl
    · unfold zf_X5_points zf_X5_of5
      rw [h2]
      rfl
theorem zSo_tricks {n : Nat} {w : zU × (Nat → Int64)} {v : zN} {p0 : Int32} (h : zRel n w.1 v) (hn : n < 600) : (zw_tricks w p0).1 = zmI (zf_X5_tricks v p0).2 0 ∧ ((zw_tricks w p0).1 = 0 → (zw_tricks w p0).2.2 0 = (zf_X5_tricks v p0).1.toInt64) ∧ zRel (n + 1) (zw_tricks w p0).2.1 (zf_X5_tricks v p0).2 := by
  rcases zpl p0 with ⟨⟨j, hj, rfl⟩, h1, h2⟩ | ⟨h1, h2⟩
  · have hf : zf_X4_tricks w.1 (nI j) = (0, zmT v j, w.1) := by
      unfold zf_X4_tricks
      rw [h1, if_pos rfl, zseat w.1 (vp_in_nI hj (by omega)), nI_clamp (by omega), zRel_Tr h j hj]
    refine zOk (u' := w.1) (f := w.2) (v' := zmI1 v 0 0) (x := zmT v j) (by unfold zw_tricks; rw [hf]; rfl) ?_ rfl (zRel_t h)
    unfold zf_X5_tricks zf_X5_of6
    rw [h2, nI_clamp (by omega)]
    rfl
  · refine zErr (k := 1) (x := 0) h (by decide) ?_ ?_
    · unfold zw_tricks zf_X4_tricks
      rw [h1]
      rfl
    · unfold zf_X5_tricks zf_X5_of6
      rw [h2]
      rfl
theorem zSo_score {n : Nat} {w : zU × (Nat → Int64)} {v : zN} {p0 : Int32} (h : zRel n w.1 v) (hn : n < 600) : (zw_score w p0).1 = zmI (zf_X5_score v p0).2 0 ∧ ((zw_score w p0).1 = 0 → (zw_score w p0).2.2 0 = (zf_X5_score v p0).1.toInt64) ∧ zRel (n + 1) (zw_score w p0).2.1 (zf_X5_score v p0).2 := by
  rcases zpl p0 with ⟨⟨j, hj, rfl⟩, h1, h2⟩ | ⟨h1, h2⟩
  · have hf : zf_X4_score w.1 (nI j) = (0, zmO v j, w.1) := by
      unfold zf_X4_score
      rw [h1, if_pos rfl, zseat w.1 (vp_in_nI hj (by omega)), nI_clamp (by omega), zRel_O h j hj]
    refine zOk (u' := w.1) (f := w.2) (v' := zmI1 v 0 0) (x := zmO v j) (by unfold zw_score; rw [hf]; rfl) ?_ rfl (zRel_t h)
    unfold zf_X5_score zf_X5_of7
    rw [h2, nI_clamp (by omega)]
    rfl
  · refine zErr (k := 1) (x := 0) h (by decide) ?_ ?_
    · unfold zw_score zf_X4_score
      rw [h1]
      rfl
    · unfold zf_X5_score zf_X5_of7
      rw [h2]
      rfl
theorem zSo_hand {n : Nat} {w : zU × (Nat → Int64)} {v : zN} {p0 : Int32} (h : zRel n w.1 v) (hn : n < 600) : (zw_hand w p0).1 = zmI (zf_X5_hand v p0).2 0 ∧ ((zw_hand w p0).1 = 0 → (zw_hand w p0).2.2 0 = (zf_X5_hand v p0).1) ∧ zRel (n + 1) (zw_hand w p0).2.1 (zf_X5_hand v p0).2 := by
  rcases zpl p0 with ⟨⟨j, hj, rfl⟩, h1, h2⟩ | ⟨h1, h2⟩
  · have hf : zf_X4_hand w.1 (nI j) = (0, zmC v j, w.1) := by
      unfold zf_X4_hand
      rw [h1, if_pos rfl, zseat w.1 (vp_in_nI hj (by omega)), nI_clamp (by omega), zRel_C h j hj]
    refine zOkL (u' := w.1) (f := w.2) (v' := zmI1 v 0 0) (x := zmC v j) (by unfold zw_hand; rw [hf]; rfl) ?_ rfl (zRel_t h)
    unfold zf_X5_hand
    rw [h2, nI_clamp (by omega)]
    rfl
  · refine zErrL (k := 1) (x := 0) h (by decide) ?_ ?_
    · unfold zw_hand zf_X4_hand
      rw [h1]
      rfl
    · unfold zf_X5_hand
      rw [h2]
      rfl
theorem zSo_inTrick {n : Nat} {w : zU × (Nat → Int64)} {v : zN} {p0 : Int32} (h : zRel n w.1 v) (hn : n < 600) : (zw_inTrick w p0).1 = zmI (zf_X5_inTrick v p0).2 0 ∧ ((zw_inTrick w p0).1 = 0 → (zw_inTrick w p0).2.2 0 = (zf_X5_inTrick v p0).1.toInt64) ∧ zRel (n + 1) (zw_inTrick w p0).2.1 (zf_X5_inTrick v p0).2 := by
  rcases zrange p0 2 (by decide) with ⟨h0, h1⟩ | ⟨h2, h0, h1⟩ | ⟨j, hj, rfl, h0, h2, h1⟩
  · refine zErr (k := 1) (x := 0) h (by decide) ?_ (if_pos h1)
    unfold zw_inTrick zf_X4_inTrick
    rw [if_pos h0]; rfl
  · refine zErr (k := 1) (x := 0) h (by decide) ?_ (if_pos h1)
    have h3 : ¬ p0 < 3 := fun q => by
      rw [Int32.lt_iff_toInt_lt] at h2 q
      have e2 : (nI 2).toInt = 2 := by decide
      have e3 : (3 : Int32).toInt = 3 := by decide
      omega
    unfold zw_inTrick zf_X4_inTrick
    rw [if_neg h0, if_neg h3]; rfl
  · have h3 : nI j < 3 := by rw [show (3 : Int32) = nI 3 from rfl, nI_ltI (by omega) (by omega)]; omega
    have h4 : ¬ (3 : Int32) ≤ nI j := by rw [show (3 : Int32) = nI 3 from rfl, nI_leI (by omega) (by omega)]; omega
    have hf : zf_X4_inTrick w.1 (nI j) = (0, zf_X3_cardAt w.1 (nI j), w.1) := by unfold zf_X4_inTrick; rw [if_neg h0, if_pos h3]
    refine zOk (u' := w.1) (f := w.2) (v' := zmI1 v 0 0) (x := zf_X3_cardAt w.1 (nI j)) (by unfold zw_inTrick; rw [hf]; rfl) ?_ rfl (zRel_t h)
    unfold zf_X5_inTrick zf_X3_cardAt
    have h1 : zf_X5_in (nI j) 0 2 = 1 := h1
    rw [h1, if_neg (by decide), if_neg h0, if_neg h4, zRel_Z h, nI_clamp (by omega), zRel_R h j (by omega)]
    split <;> rfl
theorem zSo_nextBid {n : Nat} {w : zU × (Nat → Int64)} {v : zN} {p0 : Int32} (h : zRel n w.1 v) (hn : n < 600) : (zw_nextBid w p0).1 = zmI (zf_X5_nextBid v p0).2 0 ∧ ((zw_nextBid w p0).1 = 0 → (zw_nextBid w p0).2.2 0 = (zf_X5_nextBid v p0).1.toInt64) ∧ zRel (n + 1) (zw_nextBid w p0).2.1 (zf_X5_nextBid v p0).2 := by
  rcases zrange p0 263 (by decide) with ⟨h0, h1⟩ | ⟨h2, h0, h1⟩ | ⟨j, hj, rfl, h0, h2, h1⟩
  · refine zErr (k := 1) (x := 0) h (by decide) ?_ (if_pos h1)
    unfold zw_nextBid zf_X4_nextBid
    rw [if_pos h0]; rfl
  · refine zErr (k := 1) (x := 0) h (by decide) ?_ (if_pos h1)
    have h3 : ¬ p0 < 264 := fun q => by
      rw [Int32.lt_iff_toInt_lt] at h2 q
      have e2 : (nI 263).toInt = 263 := by decide
      have e3 : (264 : Int32).toInt = 264 := by decide
      omega
    unfold zw_nextBid zf_X4_nextBid
    rw [if_neg h0, if_neg h3]; rfl
  · have h3 : nI j < 264 := by rw [show (264 : Int32) = nI 264 from rfl, nI_ltI (by omega) (by omega)]; omega
    have hf : zf_X4_nextBid w.1 (nI j) = (0, zf_X0_leastAbove (nI j), w.1) := by unfold zf_X4_nextBid; rw [if_neg h0, if_pos h3]
    refine zOk (u' := w.1) (f := w.2) (v' := zmI1 v 0 0) (x := zf_X0_leastAbove (nI j)) (by unfold zw_nextBid; rw [hf]; rfl) ?_ rfl (zRel_t h)
    unfold zf_X5_nextBid
    have h1 : zf_X5_in (nI j) 0 263 = 1 := h1
    rw [h1, if_neg (by decide)]
    exact znext v j (by omega)
theorem zSo_matadors {n : Nat} {w : zU × (Nat → Int64)} {v : zN} {p0 : Int32} {p1 : Int32} (h : zRel n w.1 v) (hn : n < 600) : (zw_matadors w p0 p1).1 = zmI (zf_X5_matadors v p0 p1).2 0 ∧ ((zw_matadors w p0 p1).1 = 0 → (zw_matadors w p0 p1).2.2 0 = (zf_X5_matadors v p0 p1).1.toInt64) ∧ zRel (n + 1) (zw_matadors w p0 p1).2.1 (zf_X5_matadors v p0 p1).2 := by
  rcases zpl p0 with ⟨⟨j, hj, rfl⟩, h1, h2⟩ | ⟨h1, h2⟩
  · rcases zrange p1 4 (by decide) with ⟨g0, g1⟩ | ⟨g2, g0, g1⟩ | ⟨c, hc, rfl, g0, g2, g1⟩
    · refine zErr (k := 2) (x := 0) h (by decide) ?_ ?_
      · unfold zw_matadors zf_X4_matadors
        rw [h1, if_pos rfl, if_pos g0]; rfl
      · unfold zf_X5_matadors
        rw [h2, if_neg (by decide)]; exact if_pos g1
    · refine zErr (k := 2) (x := 0) h (by decide) ?_ ?_
      · have g3 : ¬ p1 ≤ 4 := fun q => by
          rw [Int32.lt_iff_toInt_lt] at g2
          rw [Int32.le_iff_toInt_le] at q
          have e2 : (nI 4).toInt = 4 := by decide
          have e3 : (4 : Int32).toInt = 4 := by decide
          omega
        unfold zw_matadors zf_X4_matadors
        rw [h1, if_pos rfl, if_neg g0, if_neg g3]; rfl
      · unfold zf_X5_matadors
        rw [h2, if_neg (by decide)]; exact if_pos g1
    · have g3 : nI c ≤ 4 := by rw [show (4 : Int32) = nI 4 from rfl, nI_leI (by omega) (by omega)]; omega
      have hf : zf_X4_matadors w.1 (nI j) (nI c) = (0, zf_X5_gapless (zmI1 v 0 0) (nI j) (nI c), w.1) := by
        unfold zf_X4_matadors
        rw [h1, if_pos rfl, if_neg g0, if_pos g3, zmat h hj (zmI1 v 0 0) (nI c) (fun _ => rfl) (fun _ => rfl) rfl rfl]
      refine zOk (u' := w.1) (f := w.2) (v' := zmI1 v 0 0) (x := zf_X5_gapless (zmI1 v 0 0) (nI j) (nI c)) (by unfold zw_matadors; rw [hf]; rfl) ?_ rfl (zRel_t h)
      unfold zf_X5_matadors
      have g1 : zf_X5_in (nI c) 0 4 = 1 := g1
      rw [h2, if_neg (by decide), g1, if_neg (by decide)]
  · refine zErr (k := 1) (x := 0) h (by decide) ?_ ?_
    · unfold zw_matadors zf_X4_matadors
      rw [h1]
      rfl
    · unfold zf_X5_matadors
      rw [h2]
      rfl
theorem zSo_playable {n : Nat} {w : zU × (Nat → Int64)} {v : zN} (h : zRel n w.1 v) (hn : n < 600) : (zw_playable w).1 = zmI (zf_X5_playable v).2 0 ∧ ((zw_playable w).1 = 0 → (zw_playable w).2.2 0 = (zf_X5_playable v).1) ∧ zRel (n + 1) (zw_playable w).2.1 (zf_X5_playable v).2 := by
  by_cases h5 : zmI v 2 = 5
  · have hf : zf_X4_playable w.1 = (0, zf_X5_open (zmI1 v 0 0), w.1) := by
      unfold zf_X4_playable
      rw [zRel_ph h, if_pos h5, zplayable (z := zmI1 v 0 0) h h5 (fun _ => rfl) (fun _ => rfl) rfl rfl rfl]
    refine zOkL (u' := w.1) (f := w.2) (v' := zmI1 v 0 0) (x := zf_X5_open (zmI1 v 0 0)) (by unfold zw_playable; rw [hf]; rfl) ?_ rfl (zRel_t h)
    unfold zf_X5_playable
    rw [if_pos h5]
  · refine zErrL (k := 1) (x := 0) h (by decide) ?_ ?_
    · unfold zw_playable zf_X4_playable
      rw [zRel_ph h, if_neg h5]; rfl
    · unfold zf_X5_playable
      rw [if_neg h5]
theorem zSo_hold {n : Nat} {w : zU × (Nat → Int64)} {v : zN} (h : zRel n w.1 v) (hn : n < 600) : (zw_hold w).1 = zmI (zf_X5_hold v).2 0 ∧ ((zw_hold w).1 = 0 → (zw_hold w).2.2 0 = (zf_X5_hold v).1.toInt64) ∧ zRel (n + 1) (zw_hold w).2.1 (zf_X5_hold v).2 := by
  by_cases h1 : zmI v 2 = 1
  · obtain ⟨b0, b1, b8, b8i, bs⟩ := zRel_bd h (Or.inr h1)
    have hz := zRel_z0 h (by rw [h1]; decide)
    have hf : zf_X4_hold w.1 = (0, zmI v 8, zuI1 (zuI1 w.1 6 0) 7 (zmI v 8)) := by
      unfold zf_X4_hold
      rw [zRel_ph h, if_pos h1, b8]
    refine zOk (u' := zuI1 (zuI1 w.1 6 0) 7 (zmI v 8)) (f := w.2) (v' := zf_X5_turns (zmI1 v 0 0) 0 (zmI v 8)) (x := zmI v 8) (by unfold zw_hold; rw [hf]; rfl) (by unfold zf_X5_hold; rw [if_pos h1]; rfl) rfl ?_
    exact zRel_mk (zRel_C (n := n) (u := w.1) (v := v) h) (zRel_Ld (n := n) (u := w.1) (v := v) h) (zRel_P (n := n) (u := w.1) (v := v) h) (zRel_Tr (n := n) (u := w.1) (v := v) h) (zRel_O (n := n) (u := w.1) (v := v) h) (zRel_R (n := n) (u := w.1) (v := v) h) (zRel_K (n := n) (u := w.1) (v := v) h) (zRel_Z (n := n) (u := w.1) (v := v) h) (rfl) (zRel_lb (n := n) (u := w.1) (v := v) h) (zRel_de (n := n) (u := w.1) (v := v) h) (zRel_co (n := n) (u := w.1) (v := v) h) (zRel_ex (n := n) (u := w.1) (v := v) h) (zRel_hg (n := n) (u := w.1) (v := v) h) (zRel_fh (n := n + 1) (u := w.1) (v := v) (zRel_le h (Nat.le_succ n))) ((by show _ = if (0 : Int32) = 6 then (-1 : Int32) else _; rw [if_neg (by decide)]; exact rfl)) (b8i) (zRel_L (n := n) (u := w.1) (v := v) h) (zRel_I (n := n) (u := w.1) (v := v) h) (fun _ => hz) (fun _ => ⟨fun _ => rfl, (fun q => absurd (show (0 : Int32) = 1 from q) (by decide)), b8, b8i, bs.elim Or.inl (fun q => q.elim (fun q => Or.inr (Or.inl q)) (fun q => absurd q.2.1 (by rw [h1]; decide)))⟩) (fun q => q.elim (fun q => absurd (show (0 : Int32) = 2 from q) (by decide)) (fun q => q.elim (fun q => absurd (show (0 : Int32) = 3 from q) (by decide)) (fun q => absurd (show (0 : Int32) = 4 from q) (by decide)))) (zRel_cn (n := n) (u := w.1) (v := v) h) (fun q => absurd (show (0 : Int32) = 5 from q) (by decide))
  · refine zErr (k := 1) (x := 0) h (by decide) ?_ ?_
    · unfold zw_hold zf_X4_hold
      rw [zRel_ph h, if_neg h1]; rfl
    · unfold zf_X5_hold
      rw [if_neg h1]
theorem znm1 {x : Int32} (h : vp_in x 3) : ¬ x = -1 := by
  obtain ⟨j, hj, rfl⟩ := vp_in_of h (by omega)
  intro e1
  have e2 := congrArg Int32.toInt e1
  rw [nI_toInt (by omega), show (-1 : Int32).toInt = -1 by decide] at e2
  omega
theorem zSo_bid {n : Nat} {w : zU × (Nat → Int64)} {v : zN} {p0 : Int32} (h : zRel n w.1 v) (hn : n < 600) : (zw_bid w p0).1 = zmI (zf_X5_bid v p0).2 0 ∧ ((zw_bid w p0).1 = 0 → (zw_bid w p0).2.2 0 = (zf_X5_bid v p0).1.toInt64) ∧ zRel (n + 1) (zw_bid w p0).2.1 (zf_X5_bid v p0).2 := by
  by_cases hb : zf_X5_isBid p0 = 0
  · refine zErr (k := 1) (x := 0) h (by decide) ?_ ?_
    · unfold zw_bid zf_X4_bid
      rw [zbid, if_pos hb]; rfl
    · unfold zf_X5_bid
      rw [if_pos hb]
  by_cases h0 : zmI v 2 = 0
  rotate_left
  · refine zErr (k := 2) (x := 0) h (by decide) ?_ ?_
    · unfold zw_bid zf_X4_bid
      rw [zbid, if_neg hb, zRel_ph h, if_neg h0]; rfl
    · unfold zf_X5_bid
      rw [if_neg hb, if_neg h0]
  by_cases hl : zmI v 11 < p0
  rotate_left
  · refine zErr (k := 2) (x := 0) h (by decide) ?_ ?_
    · unfold zw_bid zf_X4_bid
      rw [zbid, if_neg hb, zRel_ph h, if_pos h0, zRel_lb h, if_neg hl]; rfl
    · unfold zf_X5_bid
      rw [if_neg hb, if_pos h0, if_neg hl]
  obtain ⟨b0, b1, b8, b8i, bs⟩ := zRel_bd h (Or.inl h0)
  have hz := zRel_z0 h (by rw [h0]; decide)
  by_cases hs : zmI v 10 = 2
  · have h9 : zuI w.1 9 = -1 := by
      rcases bs with q | q | q
      · exact absurd (q.1.symm.trans hs) (by decide)
      · exact absurd (q.1.symm.trans hs) (by decide)
      · exact q.2.2
    have e8 : zuI w.1 8 = zmI v 3 := b8.trans (b0 h0).symm
    have hf : zf_X4_bid w.1 p0 = (0, zmI v 3, zf_X4_makeDeclarer (zuI1 w.1 10 p0) (zmI v 3)) := by
      unfold zf_X4_bid
      rw [zbid, if_neg hb, zRel_ph h, if_pos h0, zRel_lb h, if_pos hl, if_pos h9, e8]; rfl
    refine zOk (u' := zf_X4_makeDeclarer (zuI1 w.1 10 p0) (zmI v 3)) (f := w.2) (v' := zf_X5_declares (zmI1 (zmI1 v 0 0) 11 p0) (zmI v 3)) (x := zmI v 3) (by unfold zw_bid; rw [hf]; rfl) (by unfold zf_X5_bid; rw [if_neg hb, if_pos h0, if_pos hl, if_pos hs]; rfl) rfl ?_
    exact zRel_mk (zRel_C (n := n) (u := w.1) (v := v) h) (zRel_Ld (n := n) (u := w.1) (v := v) h) (zRel_P (n := n) (u := w.1) (v := v) h) (zRel_Tr (n := n) (u := w.1) (v := v) h) (zRel_O (n := n) (u := w.1) (v := v) h) (zRel_R (n := n) (u := w.1) (v := v) h) (zRel_K (n := n) (u := w.1) (v := v) h) (zRel_Z (n := n) (u := w.1) (v := v) h) (rfl) (rfl) (rfl) (zRel_co (n := n) (u := w.1) (v := v) h) (zRel_ex (n := n) (u := w.1) (v := v) h) (zRel_hg (n := n) (u := w.1) (v := v) h) (zRel_fh (n := n + 1) (u := w.1) (v := v) (zRel_le h (Nat.le_succ n))) ((by show _ = if (2 : Int32) = 6 then (-1 : Int32) else _; rw [if_neg (by decide)]; exact rfl)) (zRel_T (n := n) (u := w.1) (v := v) h) (zRel_L (n := n) (u := w.1) (v := v) h) (zRel_I (n := n) (u := w.1) (v := v) h) (fun _ => hz) (fun q => q.elim (fun q => absurd (show (2 : Int32) = 0 from q) (by decide)) (fun q => absurd (show (2 : Int32) = 1 from q) (by decide))) (fun _ => rfl) ((zRel_cn (n := n) (u := w.1) (v := v) h).elim Or.inl (fun q => Or.inr (q.elim Or.inl (fun q => Or.inr (q.elim (fun c hc => ⟨c, hc.1, hc.2.1, zRel_T (n := n) (u := w.1) (v := v) h⟩)))))) (fun q => absurd (show (2 : Int32) = 5 from q) (by decide))
  · have h9 : zuI w.1 9 = zmI v 9 ∧ vp_in (zmI v 9) 3 := by
      rcases bs with q | q | q
      · exact ⟨q.2.2.1, q.2.1⟩
      · exact ⟨q.2.2.1, q.2.1⟩
      · exact absurd q.1 hs
    have h91 : ¬ zmI v 9 = -1 := znm1 h9.2
    have hf : zf_X4_bid w.1 p0 = (0, zmI v 9, zuI1 (zuI1 (zuI1 w.1 10 p0) 6 1) 7 (zmI v 9)) := by
      unfold zf_X4_bid
      rw [zbid, if_neg hb, zRel_ph h, if_pos h0, zRel_lb h, if_pos hl, h9.1, if_neg h91]
    refine zOk (u' := zuI1 (zuI1 (zuI1 w.1 10 p0) 6 1) 7 (zmI v 9)) (f := w.2) (v' := zf_X5_turns (zmI1 (zmI1 v 0 0) 11 p0) 1 (zmI v 9)) (x := zmI v 9) (by unfold zw_bid; rw [hf]; rfl) (by unfold zf_X5_bid; rw [if_neg hb, if_pos h0, if_pos hl, if_neg hs]; rfl) rfl ?_
    exact zRel_mk (zRel_C (n := n) (u := w.1) (v := v) h) (zRel_Ld (n := n) (u := w.1) (v := v) h) (zRel_P (n := n) (u := w.1) (v := v) h) (zRel_Tr (n := n) (u := w.1) (v := v) h) (zRel_O (n := n) (u := w.1) (v := v) h) (zRel_R (n := n) (u := w.1) (v := v) h) (zRel_K (n := n) (u := w.1) (v := v) h) (zRel_Z (n := n) (u := w.1) (v := v) h) (rfl) (rfl) (zRel_de (n := n) (u := w.1) (v := v) h) (zRel_co (n := n) (u := w.1) (v := v) h) (zRel_ex (n := n) (u := w.1) (v := v) h) (zRel_hg (n := n) (u := w.1) (v := v) h) (zRel_fh (n := n + 1) (u := w.1) (v := v) (zRel_le h (Nat.le_succ n))) ((by show _ = if (1 : Int32) = 6 then (-1 : Int32) else _; rw [if_neg (by decide)]; exact rfl)) (h9.2) (zRel_L (n := n) (u := w.1) (v := v) h) (zRel_I (n := n) (u := w.1) (v := v) h) (fun _ => hz) (fun _ => ⟨(fun q => absurd (show (1 : Int32) = 0 from q) (by decide)), fun _ => rfl, b8, b8i, bs.elim Or.inl (fun q => q.elim (fun q => Or.inr (Or.inl q)) (fun q => absurd q.1 hs))⟩) (fun q => q.elim (fun q => absurd (show (1 : Int32) = 2 from q) (by decide)) (fun q => q.elim (fun q => absurd (show (1 : Int32) = 3 from q) (by decide)) (fun q => absurd (show (1 : Int32) = 4 from q) (by decide)))) (zRel_cn (n := n) (u := w.1) (v := v) h) (fun q => absurd (show (1 : Int32) = 5 from q) (by decide))
theorem zleads {n : Nat} {u : zU} {v : zN} (h : zRel n u v) (hz : zmI v 17 = 0) {u1 : zU} {v1 : zN} {c : Int32} (hO : ∀ j, j < 3 → zuO u1 j = zmO v1 j) (hP : ∀ j, j < 3 → zuP u1 j = zmP v1 j) (hTr : ∀ j, j < 3 → zuT u1 j = zmT v1 j) (hC : ∀ j, j < 3 → zuC u1 j = zmC v1 j) (hL : ∀ j, j < 3 → zuL u1 j = zmL v1 j) (hR : ∀ j, j < 3 → zuR u1 j = zmR v1 j) (hK : zuK u1 = zmK v1) (hZ : zuZ u1 = zuZ u)
    (hlb : zuI u1 10 = zmI v1 11) (hde : zuI u1 11 = zmI v1 12) (hco : zmI v1 13 = c) (hex : zuI u1 13 = zmI v1 14) (hhg : zuI u1 14 = zmI v1 15) (h1 : zmI v1 1 = zmI v 1) (h5 : zuI u1 5 = zuI u 5) (hc : c = 6 ∨ ∃ t, t < 6 ∧ c = nI t ∧ vp_in (zmI v1 12) 3) (h0 : zmI v1 0 = 0) (hn : n < 600) : zRel (n + 1) (zf_X4_startPlay u1 c) (zf_X5_leads v1) ∧ zmI (zf_X5_leads v1) 0 = 0 ∧ zmI (zf_X5_leads v1) 3 = zuI u 5 := by
  obtain ⟨d, d1, d2, d3⟩ := zRel_fh h
  have hf : zf_X5_forehand v1 = nI (d % 3) := by
    unfold zf_X5_forehand
    rw [h1, d2]; exact zmodN d (by omega)
  have hin : vp_in (nI (d % 3)) 3 := vp_in_nI (Nat.mod_lt _ (by omega)) (by omega)
  unfold zf_X5_leads
  rw [hf]
  refine ⟨zRel_mk hC hL hP hTr hO hR hK ?_ rfl hlb hde hco.symm hex hhg ⟨d, by omega, h1.trans d2, h5.trans d3⟩ ?_ hin hin (show vp_in (0 : Int32) 3 from vp_in_iff.mpr (by decide)) (fun q => rfl) (fun q => q.elim (fun q => absurd (show (5 : Int32) = 0 from q) (by decide)) (fun q => absurd (show (5 : Int32) = 1 from q) (by decide))) (fun q => q.elim (fun q => absurd (show (5 : Int32) = 2 from q) (by decide)) (fun q => q.elim (fun q => absurd (show (5 : Int32) = 3 from q) (by decide)) (fun q => absurd (show (5 : Int32) = 4 from q) (by decide)))) ?_ (fun _ => ⟨?_, d % 3, 0, Nat.mod_lt _ (by omega), by omega, rfl, rfl, ?_, fun j hj => absurd hj (by omega)⟩), h0, d3.symm⟩
  · show zuZ u1 = 0
    rw [hZ, zRel_Z h, hz]
  · show zuI u1 5 = if (5 : Int32) = 6 then (-1 : Int32) else nI (d % 3)
    rw [if_neg (by decide), h5, d3]
  · rcases hc with e | ⟨t, t1, t2, t3⟩
    · exact Or.inr (Or.inl (hco.trans e))
    · exact Or.inr (Or.inr ⟨t, t1, hco.trans t2, t3⟩)
  · show ¬ zmI v1 13 = -1
    rw [hco]
    rcases hc with e | ⟨t, t1, t2, t3⟩
    · rw [e]; decide
    · rw [t2]
      intro e1
      have e2 := congrArg Int32.toInt e1
      rw [nI_toInt (by omega), show (-1 : Int32).toInt = -1 by decide] at e2
      omega
  · show nI (d % 3) = nI ((d % 3 + 0) % 3)
    congr 1
    omega
def zgoN (v : zN) (p : Int32) : zN := if zmI v 10 = 0 then (zf_X5_turns (zmI1 (zmI1 (zmI1 (zmI1 v 0 0) 10 1) 9 p) 8 (((zf_X5_forehand (zmI1 (zmI1 (zmI1 v 0 0) 10 1) 9 p)) + 2) - ((zf_X5_forehand (zmI1 (zmI1 (zmI1 v 0 0) 10 1) 9 p)) + 2) / 3 * 3)) 0 (((zf_X5_forehand (zmI1 (zmI1 (zmI1 v 0 0) 10 1) 9 p)) + 2) - ((zf_X5_forehand (zmI1 (zmI1 (zmI1 v 0 0) 10 1) 9 p)) + 2) / 3 * 3)) else if zmI v 11 ≤ 0 then (zf_X5_turns (zmI1 (zmI1 (zmI1 v 0 0) 10 2) 8 p) 0 p) else (zf_X5_declares (zmI1 v 0 0) p)
theorem zgo {n : Nat} {u : zU} {v : zN} {p : Int32} (h : zRel n u v) (hn : n < 600) (h01 : zmI v 2 = 0 ∨ zmI v 2 = 1) (hs : ¬ zmI v 10 = 2) (hp : vp_in p 3) : zRel (n + 1) (zf_X4_goOnBidding u p) (zgoN v p) ∧ zmI (zgoN v p) 0 = 0 ∧ zuI (zf_X4_goOnBidding u p) 7 = zmI (zgoN v p) 3 := by
  obtain ⟨b0, b1, b8, b8i, bs⟩ := zRel_bd h h01
  have hz : zmI v 17 = 0 := zRel_z0 h (by rcases h01 with q | q <;> rw [q] <;> decide)
  obtain ⟨d, d1, d2, d3⟩ := zRel_fh h
  have hin : vp_in (nI (d % 3)) 3 := vp_in_nI (Nat.mod_lt _ (by omega)) (by omega)
  have hfo : ∀ x y : Int32, zf_X5_forehand (zmI1 (zmI1 (zmI1 v 0 x) 10 y) 9 p) = nI (d % 3) := fun x y => by
    show (zmI v 1) - (zmI v 1) / 3 * 3 = _
    rw [d2]; exact zmodN d (by omega)
  have h2 := zafter2 hin
  have hi2 := zafter_in (zafter_in hin)
  unfold zf_X4_goOnBidding zgoN
  rcases bs with ⟨s0, s1, s2, s3⟩ | ⟨s0, s1, s2, s3⟩ | ⟨s0, s1, s2⟩
  · rw [if_pos s0, hfo, ← h2, b8, if_neg s3, d3]
    exact ⟨zRel_mk (zRel_C (n := n) (u := u) (v := v) h) (zRel_Ld (n := n) (u := u) (v := v) h) (zRel_P (n := n) (u := u) (v := v) h) (zRel_Tr (n := n) (u := u) (v := v) h) (zRel_O (n := n) (u := u) (v := v) h) (zRel_R (n := n) (u := u) (v := v) h) (zRel_K (n := n) (u := u) (v := v) h) (zRel_Z (n := n) (u := u) (v := v) h) (rfl) (zRel_lb (n := n) (u := u) (v := v) h) (zRel_de (n := n) (u := u) (v := v) h) (zRel_co (n := n) (u := u) (v := v) h) (zRel_ex (n := n) (u := u) (v := v) h) (zRel_hg (n := n) (u := u) (v := v) h) (zRel_fh (n := n + 1) (u := u) (v := v) (zRel_le h (Nat.le_succ n))) ((by show _ = if (0 : Int32) = 6 then (-1 : Int32) else _; rw [if_neg (by decide)]; exact rfl)) (hi2) (zRel_L (n := n) (u := u) (v := v) h) (zRel_I (n := n) (u := u) (v := v) h) (fun _ => hz) (fun _ => ⟨fun _ => rfl, (fun q => absurd (show (0 : Int32) = 1 from q) (by decide)), rfl, hi2, Or.inr (Or.inl ⟨rfl, hp, rfl, by show _ = zf_X4_playerAfter (zf_X4_playerAfter (zuI u 5)); rw [d3]; rfl⟩)⟩) (fun q => q.elim (fun q => absurd (show (0 : Int32) = 2 from q) (by decide)) (fun q => q.elim (fun q => absurd (show (0 : Int32) = 3 from q) (by decide)) (fun q => absurd (show (0 : Int32) = 4 from q) (by decide)))) (zRel_cn (n := n) (u := u) (v := v) h) (fun q => absurd (show (0 : Int32) = 5 from q) (by decide)), rfl, rfl⟩
  · have s10 : ¬ zmI v 10 = 0 := by rw [s0]; decide
    rw [if_neg s10, b8, if_pos s3, zRel_lb h]
    by_cases hl : zmI v 11 ≤ 0
    · rw [if_pos hl, if_pos hl]
      exact ⟨zRel_mk (zRel_C (n := n) (u := u) (v := v) h) (zRel_Ld (n := n) (u := u) (v := v) h) (zRel_P (n := n) (u := u) (v := v) h) (zRel_Tr (n := n) (u := u) (v := v) h) (zRel_O (n := n) (u := u) (v := v) h) (zRel_R (n := n) (u := u) (v := v) h) (zRel_K (n := n) (u := u) (v := v) h) (zRel_Z (n := n) (u := u) (v := v) h) (rfl) (zRel_lb (n := n) (u := u) (v := v) h) (zRel_de (n := n) (u := u) (v := v) h) (zRel_co (n := n) (u := u) (v := v) h) (zRel_ex (n := n) (u := u) (v := v) h) (zRel_hg (n := n) (u := u) (v := v) h) (zRel_fh (n := n + 1) (u := u) (v := v) (zRel_le h (Nat.le_succ n))) ((by show _ = if (0 : Int32) = 6 then (-1 : Int32) else _; rw [if_neg (by decide)]; exact rfl)) (hp) (zRel_L (n := n) (u := u) (v := v) h) (zRel_I (n := n) (u := u) (v := v) h) (fun _ => hz) (fun _ => ⟨fun _ => rfl, (fun q => absurd (show (0 : Int32) = 1 from q) (by decide)), rfl, hp, Or.inr (Or.inr ⟨rfl, rfl, rfl⟩)⟩) (fun q => q.elim (fun q => absurd (show (0 : Int32) = 2 from q) (by decide)) (fun q => q.elim (fun q => absurd (show (0 : Int32) = 3 from q) (by decide)) (fun q => absurd (show (0 : Int32) = 4 from q) (by decide)))) (zRel_cn (n := n) (u := u) (v := v) h) (fun q => absurd (show (0 : Int32) = 5 from q) (by decide)), rfl, rfl⟩
    · rw [if_neg hl, if_neg hl]
      exact ⟨zRel_mk (zRel_C (n := n) (u := u) (v := v) h) (zRel_Ld (n := n) (u := u) (v := v) h) (zRel_P (n := n) (u := u) (v := v) h) (zRel_Tr (n := n) (u := u) (v := v) h) (zRel_O (n := n) (u := u) (v := v) h) (zRel_R (n := n) (u := u) (v := v) h) (zRel_K (n := n) (u := u) (v := v) h) (zRel_Z (n := n) (u := u) (v := v) h) (rfl) (zRel_lb (n := n) (u := u) (v := v) h) (rfl) (zRel_co (n := n) (u := u) (v := v) h) (zRel_ex (n := n) (u := u) (v := v) h) (zRel_hg (n := n) (u := u) (v := v) h) (zRel_fh (n := n + 1) (u := u) (v := v) (zRel_le h (Nat.le_succ n))) ((by show _ = if (2 : Int32) = 6 then (-1 : Int32) else _; rw [if_neg (by decide)]; exact rfl)) (hp) (zRel_L (n := n) (u := u) (v := v) h) (zRel_I (n := n) (u := u) (v := v) h) (fun _ => hz) (fun q => q.elim (fun q => absurd (show (2 : Int32) = 0 from q) (by decide)) (fun q => absurd (show (2 : Int32) = 1 from q) (by decide))) (fun _ => rfl) ((zRel_cn (n := n) (u := u) (v := v) h).elim Or.inl (fun q => Or.inr (q.elim Or.inl (fun q => Or.inr (q.elim (fun c hc => ⟨c, hc.1, hc.2.1, hp⟩)))))) (fun q => absurd (show (2 : Int32) = 5 from q) (by decide)), rfl, rfl⟩
  · exact absurd s0 hs
theorem zSo_pass {n : Nat} {w : zU × (Nat → Int64)} {v : zN} (h : zRel n w.1 v) (hn : n < 600) : (zw_pass w).1 = zmI (zf_X5_pass v).2 0 ∧ ((zw_pass w).1 = 0 → (zw_pass w).2.2 0 = (zf_X5_pass v).1.toInt64) ∧ zRel (n + 1) (zw_pass w).2.1 (zf_X5_pass v).2 := by
  by_cases h0 : zmI v 2 = 0
  · obtain ⟨b0, b1, b8, b8i, bs⟩ := zRel_bd h (Or.inl h0)
    have hz := zRel_z0 h (by rw [h0]; decide)
    by_cases hs : zmI v 10 = 2
    · have h9 : zuI w.1 9 = -1 := by
        rcases bs with q | q | q
        · exact absurd (q.1.symm.trans hs) (by decide)
        · exact absurd (q.1.symm.trans hs) (by decide)
        · exact q.2.2
      obtain ⟨r1, r2, r3⟩ := zleads (u1 := w.1) (v1 := zmI1 (zmI1 v 0 0) 13 6) (c := 6) h hz (zRel_O (n := n) (u := w.1) (v := v) h) (zRel_P (n := n) (u := w.1) (v := v) h) (zRel_Tr (n := n) (u := w.1) (v := v) h) (zRel_C (n := n) (u := w.1) (v := v) h) (zRel_Ld (n := n) (u := w.1) (v := v) h) (zRel_R (n := n) (u := w.1) (v := v) h) (zRel_K (n := n) (u := w.1) (v := v) h) rfl (zRel_lb (n := n) (u := w.1) (v := v) h) (zRel_de (n := n) (u := w.1) (v := v) h) rfl (zRel_ex (n := n) (u := w.1) (v := v) h) (zRel_hg (n := n) (u := w.1) (v := v) h) rfl rfl (Or.inl rfl) rfl hn
      have hf : zf_X4_pass w.1 = (0, zuI w.1 5, zf_X4_startPlay w.1 6) := by
        unfold zf_X4_pass
        rw [zRel_ph h, if_pos h0, if_pos h9]; rfl
      refine zOk (u' := zf_X4_startPlay w.1 6) (f := w.2) (v' := zf_X5_leads (zmI1 (zmI1 v 0 0) 13 6)) (x := zuI w.1 5) (by unfold zw_pass; rw [hf]; rfl) (by unfold zf_X5_pass; rw [if_pos h0, if_pos hs, r3]) r2 r1
    · have hp9 : zuI w.1 9 = zmI v 9 ∧ vp_in (zmI v 9) 3 := by
        rcases bs with q | q | q
        · exact ⟨q.2.2.1, q.2.1⟩
        · exact ⟨q.2.2.1, q.2.1⟩
        · exact absurd q.1 hs
      obtain ⟨r1, r2, r3⟩ := zgo (p := zmI v 9) h hn (Or.inl h0) hs hp9.2
      have hf : zf_X4_pass w.1 = (0, zmI (zgoN v (zmI v 9)) 3, zf_X4_goOnBidding w.1 (zmI v 9)) := by
        unfold zf_X4_pass
        rw [zRel_ph h, if_pos h0, hp9.1, if_neg (znm1 hp9.2), r3]
      refine zOk (u' := zf_X4_goOnBidding w.1 (zmI v 9)) (f := w.2) (v' := zgoN v (zmI v 9)) (x := zmI (zgoN v (zmI v 9)) 3) (by unfold zw_pass; rw [hf]; rfl) ?_ r2 r1
      unfold zf_X5_pass zgoN
      rw [if_pos h0, if_neg hs]
      split
      · rfl
      · split <;> rfl
  by_cases h1 : zmI v 2 = 1
  · obtain ⟨b0, b1, b8, b8i, bs⟩ := zRel_bd h (Or.inr h1)
    have hs : ¬ zmI v 10 = 2 := by
      rcases bs with q | q | q
      · rw [q.1]; decide
      · rw [q.1]; decide
      · exact absurd (q.2.1.symm.trans h1) (by decide)
    have hp9 : zuI w.1 9 = zmI v 9 ∧ vp_in (zmI v 9) 3 := by
      rcases bs with q | q | q
      · exact ⟨q.2.2.1, q.2.1⟩
      · exact ⟨q.2.2.1, q.2.1⟩
      · exact absurd q.1 hs
    obtain ⟨r1, r2, r3⟩ := zgo (p := zmI v 8) h hn (Or.inr h1) hs b8i
    have hf : zf_X4_pass w.1 = (0, zmI (zgoN v (zmI v 8)) 3, zf_X4_goOnBidding w.1 (zmI v 8)) := by
      unfold zf_X4_pass
      rw [zRel_ph h, if_neg h0, if_pos h1, hp9.1, if_neg (znm1 hp9.2), b8, r3]
    refine zOk (u' := zf_X4_goOnBidding w.1 (zmI v 8)) (f := w.2) (v' := zgoN v (zmI v 8)) (x := zmI (zgoN v (zmI v 8)) 3) (by unfold zw_pass; rw [hf]; rfl) ?_ r2 r1
    unfold zf_X5_pass zgoN
    rw [if_neg h0, if_pos h1, if_neg hs]
    split
    · rfl
    · split <;> rfl
  · refine zErr (k := 1) (x := 0) h (by decide) ?_ ?_
    · unfold zw_pass zf_X4_pass
      rw [zRel_ph h, if_neg h0, if_neg h1]; rfl
    · unfold zf_X5_pass
      rw [if_neg h0, if_neg h1]
theorem zSo_takeSkat {n : Nat} {w : zU × (Nat → Int64)} {v : zN} (h : zRel n w.1 v) (hn : n < 600) : (zw_takeSkat w).1 = zmI (zf_X5_takeSkat v).2 0 ∧ ((zw_takeSkat w).1 = 0 → (zw_takeSkat w).2.2 0 = (zf_X5_takeSkat v).1) ∧ zRel (n + 1) (zw_takeSkat w).2.1 (zf_X5_takeSkat v).2 := by
  by_cases h2 : zmI v 2 = 2
  · have hz := zRel_z0 h (by rw [h2]; decide)
    have h12 : vp_in (zmI v 12) 3 := zRel_E2 h h2
    have hd := zRel_dc h (Or.inl h2)
    obtain ⟨q, hq, e12⟩ := vp_in_of h12 (by omega)
    have hf : zf_X4_takeSkat w.1 = (0, zmK v, zuI1 (zusK (zuC1 w.1 q (zmC v q ||| zmK v)) 0) 6 3) := by
      unfold zf_X4_takeSkat
      rw [zRel_ph h, if_pos h2, zRel_de h, zseat w.1 h12, e12, nI_clamp (by omega), zRel_C h q hq, zRel_K h]
    refine zOkL (u' := zuI1 (zusK (zuC1 w.1 q (zmC v q ||| zmK v)) 0) 6 3) (f := w.2) (v' := zf_X5_turns (zmsK (zmC1 (zmI1 v 0 0) q (zmC v q ||| zmK v)) 0) 3 (zmI v 12)) (x := zmK v) (by unfold zw_takeSkat; rw [hf]; rfl) ?_ rfl ?_
    · unfold zf_X5_takeSkat
      rw [if_pos h2]
      have e : (zmI v 12).toNatClampNeg = q := by rw [e12, nI_clamp (by omega)]
      rw [e]
    · exact zRel_mk (fun j hj => by show (if j = q then _ else zuC w.1 j) = (if j = q then _ else zmC v j); rw [zRel_C h j hj]) (zRel_Ld (n := n) (u := w.1) (v := v) h) (zRel_P (n := n) (u := w.1) (v := v) h) (zRel_Tr (n := n) (u := w.1) (v := v) h) (zRel_O (n := n) (u := w.1) (v := v) h) (zRel_R (n := n) (u := w.1) (v := v) h) (rfl) (zRel_Z (n := n) (u := w.1) (v := v) h) (rfl) (zRel_lb (n := n) (u := w.1) (v := v) h) (zRel_de (n := n) (u := w.1) (v := v) h) (zRel_co (n := n) (u := w.1) (v := v) h) (zRel_ex (n := n) (u := w.1) (v := v) h) (zRel_hg (n := n) (u := w.1) (v := v) h) (zRel_fh (n := n + 1) (u := w.1) (v := v) (zRel_le h (Nat.le_succ n))) ((by show _ = if (3 : Int32) = 6 then (-1 : Int32) else _; rw [if_neg (by decide)]; exact by rw [← hd]; exact (zRel_ot h).trans (if_neg (by rw [h2]; decide)))) (h12) (zRel_L (n := n) (u := w.1) (v := v) h) (zRel_I (n := n) (u := w.1) (v := v) h) (fun _ => hz) (fun q => q.elim (fun q => absurd (show (3 : Int32) = 0 from q) (by decide)) (fun q => absurd (show (3 : Int32) = 1 from q) (by decide))) (fun _ => rfl) (zRel_cn (n := n) (u := w.1) (v := v) h) (fun q => absurd (show (3 : Int32) = 5 from q) (by decide))
  · refine zErrL (k := 1) (x := 0) h (by decide) ?_ ?_
    · unfold zw_takeSkat zf_X4_takeSkat
      rw [zRel_ph h, if_neg h2]; rfl
    · unfold zf_X5_takeSkat
      rw [if_neg h2]
theorem zset_ne (p : Int32) : ¬ zf_X1_setOf p = 0 := by
  intro h
  have h1 : (1 : Int64) <<< (p.toInt64 &&& 63) = 0 := h
  have h2 := zshl (p.toInt64 &&& 63)
  rw [h1] at h2
  have hk := zsm (p.toInt64 &&& 63).toBitVec
  generalize ((p.toInt64 &&& 63).toBitVec.smod 64#64).toNat = k at h2 hk
  have h3 := congrArg (fun z => BitVec.getLsbD z k) h2
  simp only [BitVec.getLsbD_twoPow] at h3
  rw [show (0 : Int64).toBitVec = 0#64 from rfl, BitVec.getLsbD_zero] at h3
  simp [hk] at h3
theorem zhas0 (x : Int64) (p : Int32) : zf_X5_has x p = 0 ↔ x &&& zf_X1_setOf p = 0 := by
  rw [zhas]
  by_cases h : lg_cmp (x &&& zf_X1_setOf p) 0 = 0
  · rw [if_pos h]; exact ⟨fun _ => zlc0.mp h, fun _ => rfl⟩
  · rw [if_neg h]; exact ⟨fun q => absurd q (by decide), fun q => absurd (zlc0.mpr q) h⟩
theorem zhasn (x : Int64) (p : Int32) (h : ¬ zf_X5_has x p = 0) : x &&& zf_X1_setOf p = zf_X1_setOf p := by
  rw [zhas0] at h
  have h1 := zand1 x (p.toInt64 &&& 63)
  show x &&& ((1 : Int64) <<< (p.toInt64 &&& 63)) = _
  rw [h1]
  exact if_neg h
theorem zabs (a b : Int64) : (a ||| b) &&& a = a := by
  apply Int64.toBitVec_inj.mp
  simp only [Int64.toBitVec_and, Int64.toBitVec_or]
  ext i
  simp only [BitVec.getElem_and, BitVec.getElem_or]
  cases a.toBitVec[i] <;> simp
theorem zabs2 (a b : Int64) : (a ||| b) &&& b = b := by
  apply Int64.toBitVec_inj.mp
  simp only [Int64.toBitVec_and, Int64.toBitVec_or]
  ext i
  simp only [BitVec.getElem_and, BitVec.getElem_or]
  cases b.toBitVec[i] <;> simp
theorem zboth (x : Int64) (p q : Int32) : lg_cmp (x &&& (zf_X1_setOf p ||| zf_X1_setOf q)) (zf_X1_setOf p ||| zf_X1_setOf q) = 0 ↔ (¬ zf_X5_has x p = 0 ∧ ¬ zf_X5_has x q = 0) := by
  rw [zlc0]
  constructor
  · intro h
    constructor
    · rw [zhas0]
      intro h1
      have h2 := zabs (zf_X1_setOf p) (zf_X1_setOf q)
      rw [← h, Int64.and_assoc, zabs, h1] at h2
      exact zset_ne p h2.symm
    · rw [zhas0]
      intro h1
      have h2 := zabs2 (zf_X1_setOf p) (zf_X1_setOf q)
      rw [← h, Int64.and_assoc, zabs2, h1] at h2
      exact zset_ne q h2.symm
  · intro h
    rw [zand_or, zhasn x p h.1, zhasn x q h.2]
theorem zSo_putAway {n : Nat} {w : zU × (Nat → Int64)} {v : zN} {p0 : Int32} {p1 : Int32} (h : zRel n w.1 v) (hn : n < 600) : (zw_putAway w p0 p1).1 = zmI (zf_X5_putAway v p0 p1).2 0 ∧ ((zw_putAway w p0 p1).1 = 0 → (zw_putAway w p0 p1).2.2 0 = (zf_X5_putAway v p0 p1).1.toInt64) ∧ zRel (n + 1) (zw_putAway w p0 p1).2.1 (zf_X5_putAway v p0 p1).2 := by
  have e2 : ∀ {k : Int32}, zf_X5_in p0 0 31 = 0 ∨ zf_X5_in p1 0 31 = 0 → (if zf_X5_in p0 0 31 = 0 then (0 : Int32) else if zf_X5_in p1 0 31 = 0 then (0 : Int32) else 1) = 0 := fun q => by
    rcases q with q | q
    · rw [if_pos q]
    · rw [if_pos q]; split <;> rfl
  rcases zcd p0 with ⟨c, hc, e0, g0, g1⟩ | ⟨g0, g1⟩
  rotate_left
  · refine zErr (k := 1) (x := 0) h (by decide) ?_ ?_
    · unfold zw_putAway zf_X4_putAway
      rw [if_pos g0]; rfl
    · unfold zf_X5_putAway
      rw [if_pos (e2 (k := 0) (Or.inl g1))]
  rcases zcd p1 with ⟨c1, hc1, e1, g2, g3⟩ | ⟨g2, g3⟩
  rotate_left
  · refine zErr (k := 1) (x := 0) h (by decide) ?_ ?_
    · unfold zw_putAway zf_X4_putAway
      rw [if_neg (show ¬ zf_X4_isCard p0 = 0 by rw [g0]; decide), if_pos g2]; rfl
    · unfold zf_X5_putAway
      rw [if_pos (e2 (k := 0) (Or.inr g3))]
  have e3 : ¬ (if zf_X5_in p0 0 31 = 0 then (0 : Int32) else if zf_X5_in p1 0 31 = 0 then (0 : Int32) else 1) = 0 := by
    rw [g1, g3]; decide
  have g00 : ¬ zf_X4_isCard p0 = 0 := by rw [g0]; decide
  have g20 : ¬ zf_X4_isCard p1 = 0 := by rw [g2]; decide
  by_cases hpq : p0 = p1
  · refine zErr (k := 2) (x := 0) h (by decide) ?_ ?_
    · unfold zw_putAway zf_X4_putAway
      rw [if_neg g00, if_neg g20, if_pos hpq]; rfl
    · unfold zf_X5_putAway
      rw [if_neg e3, if_pos hpq]
  by_cases h3 : zmI v 2 = 3
  rotate_left
  · refine zErr (k := 3) (x := 0) h (by decide) ?_ ?_
    · unfold zw_putAway zf_X4_putAway
      rw [if_neg g00, if_neg g20, if_neg hpq, zRel_ph h, if_neg h3]; rfl
    · unfold zf_X5_putAway
      rw [if_neg e3, if_neg hpq, if_neg h3]
  have hz := zRel_z0 h (by rw [h3]; decide)
  have hd := zRel_dc h (Or.inr (Or.inl h3))
  obtain ⟨q, hq, e12⟩ := vp_in_of (zRel_T h) (by omega)
  have hs : zf_X4_seat w.1 (zuI w.1 11) = q := by rw [zRel_de h, ← hd, zseat w.1 (zRel_T h), e12, nI_clamp (by omega)]
  have hq2 : (zmI v 3).toNatClampNeg = q := by rw [e12, nI_clamp (by omega)]
  by_cases hb : lg_cmp (zmC v q &&& (zf_X1_setOf p0 ||| zf_X1_setOf p1)) (zf_X1_setOf p0 ||| zf_X1_setOf p1) = 0
  · have hb2 := (zboth _ _ _).mp hb
    have hf : zf_X4_putAway w.1 p0 p1 = (0, zf_X5_worthOf (zf_X1_setOf p0 ||| zf_X1_setOf p1), zuI1 (zusK (zuC1 w.1 q (zmC v q &&& ((zf_X1_setOf p0 ||| zf_X1_setOf p1) ^^^ (-1)))) (zf_X1_setOf p0 ||| zf_X1_setOf p1)) 6 4) := by
      unfold zf_X4_putAway
      rw [if_neg g00, if_neg g20, if_neg hpq, zRel_ph h, if_pos h3, hs, zRel_C h q hq, if_pos hb, zpoints]
    refine zOk (u' := zuI1 (zusK (zuC1 w.1 q (zmC v q &&& ((zf_X1_setOf p0 ||| zf_X1_setOf p1) ^^^ (-1)))) (zf_X1_setOf p0 ||| zf_X1_setOf p1)) 6 4) (f := w.2) (v' := zf_X5_turns (zmC1 (zmsK (zmI1 v 0 0) (zf_X1_setOf p0 ||| zf_X1_setOf p1)) q (zmC v q &&& ((zf_X1_setOf p0 ||| zf_X1_setOf p1) ^^^ (-1)))) 4 (zmI v 3)) (x := zf_X5_worthOf (zf_X1_setOf p0 ||| zf_X1_setOf p1)) (by unfold zw_putAway; rw [hf]; rfl) ?_ rfl ?_
    · unfold zf_X5_putAway
      rw [if_neg e3, if_neg hpq, if_pos h3, hq2, if_neg hb2.1, if_neg hb2.2]
      rfl
    · exact zRel_mk (fun j hj => by show (if j = q then _ else zuC w.1 j) = (if j = q then _ else zmC v j); rw [zRel_C h j hj]) (zRel_Ld (n := n) (u := w.1) (v := v) h) (zRel_P (n := n) (u := w.1) (v := v) h) (zRel_Tr (n := n) (u := w.1) (v := v) h) (zRel_O (n := n) (u := w.1) (v := v) h) (zRel_R (n := n) (u := w.1) (v := v) h) (rfl) (zRel_Z (n := n) (u := w.1) (v := v) h) (rfl) (zRel_lb (n := n) (u := w.1) (v := v) h) (zRel_de (n := n) (u := w.1) (v := v) h) (zRel_co (n := n) (u := w.1) (v := v) h) (zRel_ex (n := n) (u := w.1) (v := v) h) (zRel_hg (n := n) (u := w.1) (v := v) h) (zRel_fh (n := n + 1) (u := w.1) (v := v) (zRel_le h (Nat.le_succ n))) ((by show _ = if (4 : Int32) = 6 then (-1 : Int32) else _; rw [if_neg (by decide)]; exact (zRel_ot h).trans (if_neg (by rw [h3]; decide)))) (zRel_T (n := n) (u := w.1) (v := v) h) (zRel_L (n := n) (u := w.1) (v := v) h) (zRel_I (n := n) (u := w.1) (v := v) h) (fun _ => hz) (fun q => q.elim (fun q => absurd (show (4 : Int32) = 0 from q) (by decide)) (fun q => absurd (show (4 : Int32) = 1 from q) (by decide))) (fun _ => hd) (zRel_cn (n := n) (u := w.1) (v := v) h) (fun q => absurd (show (4 : Int32) = 5 from q) (by decide))
  · refine zErr (k := 3) (x := 0) h (by decide) ?_ ?_
    · unfold zw_putAway zf_X4_putAway
      rw [if_neg g00, if_neg g20, if_neg hpq, zRel_ph h, if_pos h3, hs, zRel_C h q hq, if_neg hb]; rfl
    · unfold zf_X5_putAway
      rw [if_neg e3, if_neg hpq, if_pos h3, hq2]
      by_cases b1 : zf_X5_has (zmC v q) p0 = 0
      · rw [if_pos b1]
      · rw [if_neg b1]
        by_cases b2 : zf_X5_has (zmC v q) p1 = 0
        · rw [if_pos b2]
        · exact absurd ((zboth _ _ _).mpr ⟨b1, b2⟩) hb
theorem zexA (v : zN) (p q : Int32) (h2 : zmI v 2 = 2) : zf_X4_isExtraPossible p q 1 = zf_X5_isExtra v p q := by
  unfold zf_X4_isExtraPossible zf_X5_isExtra
  rw [h2]
  by_cases a : q = 0
  · rw [if_pos a, if_pos a]; split <;> rfl
  · rw [if_neg a, if_neg a]; split <;> rfl
theorem zexB (v : zN) (p q : Int32) (h2 : zmI v 2 = 4) : zf_X4_isExtraPossible p q 0 = zf_X5_isExtra v p q := by
  unfold zf_X4_isExtraPossible zf_X5_isExtra
  rw [h2]
  by_cases a : q = 0
  · rw [if_pos a, if_pos a]; split <;> rfl
  · rw [if_neg a, if_neg a]; split <;> rfl
def zanU (u : zU) (q : Nat) (e g : Int32) : zU := zuP1 (zuI1 (zuI1 u 13 e) 14 g) q ((zuP u q) + (zf_X1_pointsIn (zuK u)))
def zanV (v : zN) (q : Nat) (c e g : Int32) : zN := zmP1 (zmI1 (zmI1 (zmI1 (zmI1 v 0 0) 13 c) 14 e) 15 g) q ((zmP v q) + (zf_X5_worthOf (zmK v)))
theorem zann {n : Nat} {u : zU} {v : zN} (h : zRel n u v) (hn : n < 600) {q t : Nat} (hq : q < 3) (ht : t < 6) (h12 : zmI v 12 = nI q) (h5 : ¬ zmI v 2 = 5) (e g : Int32) : zRel (n + 1) (zf_X4_startPlay (zanU u q e g) (nI t)) (zf_X5_leads (zanV v q (nI t) e g)) ∧ zmI (zf_X5_leads (zanV v q (nI t) e g)) 0 = 0 ∧ zmI (zf_X5_leads (zanV v q (nI t) e g)) 3 = zuI u 5 :=
  zleads (u1 := zanU u q e g) (v1 := zanV v q (nI t) e g) (c := nI t) h (zRel_z0 h h5) (zRel_O (n := n) (u := u) (v := v) h) (fun j hj => by show (if j = q then _ else zuP u j) = (if j = q then _ else zmP v j); rw [zRel_P h j hj, zRel_P h q hq, zRel_K h, zpoints]) (zRel_Tr (n := n) (u := u) (v := v) h) (zRel_C (n := n) (u := u) (v := v) h) (zRel_Ld (n := n) (u := u) (v := v) h) (zRel_R (n := n) (u := u) (v := v) h) (zRel_K (n := n) (u := u) (v := v) h) rfl (zRel_lb (n := n) (u := u) (v := v) h) (zRel_de (n := n) (u := u) (v := v) h) rfl rfl rfl rfl rfl (Or.inr ⟨t, ht, rfl, by show vp_in (zmI v 12) 3; rw [h12]; exact vp_in_nI hq (by omega)⟩) rfl hn
theorem zSo_announce {n : Nat} {w : zU × (Nat → Int64)} {v : zN} {p0 : Int32} {p1 : Int32} (h : zRel n w.1 v) (hn : n < 600) : (zw_announce w p0 p1).1 = zmI (zf_X5_announce v p0 p1).2 0 ∧ ((zw_announce w p0 p1).1 = 0 → (zw_announce w p0 p1).2.2 0 = (zf_X5_announce v p0 p1).1.toInt64) ∧ zRel (n + 1) (zw_announce w p0 p1).2.1 (zf_X5_announce v p0 p1).2 := by
  rcases zrange p0 5 (by decide) with ⟨g0, g1⟩ | ⟨g2, g0, g1⟩ | ⟨c, hc, rfl, g0, g2, g1⟩
  · refine zErr (k := 1) (x := 0) h (by decide) ?_ ?_
    · unfold zw_announce zf_X4_announce
      rw [if_pos g0]; rfl
    · unfold zf_X5_announce
      have g1 : zf_X5_in p0 0 5 = 0 := g1
      rw [if_pos g1]
      split
      · rfl
      · split <;> rfl
  · refine zErr (k := 1) (x := 0) h (by decide) ?_ ?_
    · unfold zw_announce zf_X4_announce
      have g2 : (5 : Int32) < p0 := g2
      rw [if_neg g0, if_pos g2]; rfl
    · unfold zf_X5_announce
      have g1 : zf_X5_in p0 0 5 = 0 := g1
      rw [if_pos g1]
      split
      · rfl
      · split <;> rfl
  have g10 : ¬ zf_X5_in (nI c) 0 5 = 0 := by have g1 : zf_X5_in (nI c) 0 5 = 1 := g1; rw [g1]; decide
  have g25 : ¬ (5 : Int32) < nI c := g2
  rcases zrange p1 3 (by decide) with ⟨k0, k1⟩ | ⟨k2, k0, k1⟩ | ⟨b, hb, rfl, k0, k2, k1⟩
  · refine zErr (k := 1) (x := 0) h (by decide) ?_ ?_
    · unfold zw_announce zf_X4_announce
      rw [if_neg g0, if_neg g25, if_pos k0]; rfl
    · unfold zf_X5_announce
      have k1 : zf_X5_in p1 0 3 = 0 := k1
      rw [if_neg g10, if_pos k1]
      split
      · rfl
      · split <;> rfl
  · refine zErr (k := 1) (x := 0) h (by decide) ?_ ?_
    · have k3 : ¬ p1 ≤ 3 := (fun qq => by
        rw [Int32.lt_iff_toInt_lt] at k2
        rw [Int32.le_iff_toInt_le] at qq
        have e2 : (nI 3).toInt = 3 := by decide
        have e3 : (3 : Int32).toInt = 3 := by decide
        omega)
      unfold zw_announce zf_X4_announce
      rw [if_neg g0, if_neg g25, if_neg k0, if_neg k3]; rfl
    · unfold zf_X5_announce
      have k1 : zf_X5_in p1 0 3 = 0 := k1
      rw [if_neg g10, if_pos k1]
      split
      · rfl
      · split <;> rfl
  · have k10 : ¬ zf_X5_in (nI b) 0 3 = 0 := by have k1 : zf_X5_in (nI b) 0 3 = 1 := k1; rw [k1]; decide
    have k3 : nI b ≤ 3 := by rw [show (3 : Int32) = nI 3 from rfl, nI_leI (by omega) (by omega)]; omega
    by_cases h22 : zmI v 2 = 2
    · have h2 := h22
      have h12 := zRel_E24 h (Or.inl h2)
      obtain ⟨q, hq, e12⟩ := vp_in_of h12 (by omega)
      have hq2 : (zmI v 12).toNatClampNeg = q := by rw [e12, nI_clamp (by omega)]
      have hs : ∀ u : zU, zf_X4_seat u (zuI w.1 11) = q := fun u => by rw [zRel_de h, zseat u h12, hq2]
      by_cases hx : zf_X5_isExtra v (nI c) (nI b) = 0
      · refine zErr (k := 2) (x := 0) h (by decide) ?_ ?_
        · unfold zw_announce zf_X4_announce
          rw [if_neg g0, if_neg g25, if_neg k0, if_pos k3, zRel_ph h, if_pos h2, zexA v _ _ h2, if_pos hx]; rfl
        · unfold zf_X5_announce
          rw [if_neg g10, if_neg k10, if_pos h2, if_pos hx]
      · obtain ⟨r1, r2, r3⟩ := zann h hn hq (show c < 6 by omega) e12 (by rw [h2]; decide) (nI b) 1
        have hf : zf_X4_announce w.1 (nI c) (nI b) = (0, zuI w.1 5, zf_X4_startPlay (zanU w.1 q (nI b) 1) (nI c)) := by
          unfold zf_X4_announce
          rw [if_neg g0, if_neg g25, if_neg k0, if_pos k3, zRel_ph h, if_pos h2, zexA v _ _ h2, if_neg hx, hs]; rfl
        refine zOk (u' := zf_X4_startPlay (zanU w.1 q (nI b) 1) (nI c)) (f := w.2) (v' := zf_X5_leads (zanV v q (nI c) (nI b) 1)) (x := zuI w.1 5) (by unfold zw_announce; rw [hf]; rfl) ?_ r2 r1
        unfold zf_X5_announce
        rw [if_neg g10, if_neg k10, if_pos h2, if_neg hx, hq2, ← r3]
        rfl
    by_cases h24 : zmI v 2 = 4
    · have h2 := h24
      have h12 := zRel_E24 h (Or.inr h2)
      obtain ⟨q, hq, e12⟩ := vp_in_of h12 (by omega)
      have hq2 : (zmI v 12).toNatClampNeg = q := by rw [e12, nI_clamp (by omega)]
      have hs : ∀ u : zU, zf_X4_seat u (zuI w.1 11) = q := fun u => by rw [zRel_de h, zseat u h12, hq2]
      by_cases hx : zf_X5_isExtra v (nI c) (nI b) = 0
      · refine zErr (k := 2) (x := 0) h (by decide) ?_ ?_
        · unfold zw_announce zf_X4_announce
          rw [if_neg g0, if_neg g25, if_neg k0, if_pos k3, zRel_ph h, if_neg h22, if_pos h2, zexB v _ _ h2, if_pos hx]; rfl
        · unfold zf_X5_announce
          rw [if_neg g10, if_neg k10, if_neg h22, if_pos h2, if_pos hx]
      · obtain ⟨r1, r2, r3⟩ := zann h hn hq (show c < 6 by omega) e12 (by rw [h2]; decide) (nI b) 0
        have hf : zf_X4_announce w.1 (nI c) (nI b) = (0, zuI w.1 5, zf_X4_startPlay (zanU w.1 q (nI b) 0) (nI c)) := by
          unfold zf_X4_announce
          rw [if_neg g0, if_neg g25, if_neg k0, if_pos k3, zRel_ph h, if_neg h22, if_pos h2, zexB v _ _ h2, if_neg hx, hs]; rfl
        refine zOk (u' := zf_X4_startPlay (zanU w.1 q (nI b) 0) (nI c)) (f := w.2) (v' := zf_X5_leads (zanV v q (nI c) (nI b) 0)) (x := zuI w.1 5) (by unfold zw_announce; rw [hf]; rfl) ?_ r2 r1
        unfold zf_X5_announce
        rw [if_neg g10, if_neg k10, if_neg h22, if_pos h2, if_neg hx, hq2, ← r3]
        rfl
    · refine zErr (k := 2) (x := 0) h (by decide) ?_ ?_
      · unfold zw_announce zf_X4_announce
        rw [if_neg g0, if_neg g25, if_neg k0, if_pos k3, zRel_ph h, if_neg h22, if_neg h24]; rfl
      · unfold zf_X5_announce
        rw [if_neg g10, if_neg k10, if_neg h22, if_neg h24]
