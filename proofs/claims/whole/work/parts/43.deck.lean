/-! next bid -/
theorem zbidN : ¬ zf_X0_isBid (nI 264) = 0 := by decide +kernel
theorem znext_lp (v : zN) (p : Int32) : ∀ k i : Nat, i + k = 264 → zl_X5_nextBid_lp v p k i = (zl_X0_leastAbove_lp p k i, zmI1 v 0 0) := by
  intro k
  induction k with
  | zero => intro i h; obtain rfl : i = 264 := by omega
            rfl
  | succ k ih =>
    intro i h
    show (if zf_X5_isBid (nI i) = 0 then _ else _) = ((if zf_X0_isBid (nI i) = 0 then _ else _), _)
    rw [zbid]
    by_cases h1 : zf_X5_isBid (nI i) = 0
    · rw [if_pos h1, if_pos h1]; exact ih _ (by omega)
    · rw [if_neg h1, if_neg h1]
theorem znext (v : zN) (j : Nat) (hj : j < 264) : zl_X5_nextBid_lp v (nI j) (263 - (nI j).toNatClampNeg) ((nI j).toNatClampNeg + 1) = (zf_X0_leastAbove (nI j), zmI1 v 0 0) := by
  unfold zf_X0_leastAbove
  rw [nI_clamp (by omega)]
  exact znext_lp v _ _ _ (by omega)
/-! players -/
theorem zseat (u : zU) {x : Int32} (h : vp_in x 3) : zf_X4_seat u x = x.toNatClampNeg := by
  obtain ⟨j, hj, rfl⟩ := vp_in_of h (by omega)
  rw [nI_clamp (by omega)]
  unfold zf_X4_seat
  rcases j with _ | _ | _ | j
  · rfl
  · rfl
  · rfl
  · omega
theorem zafter {x : Int32} (h : vp_in x 3) : zf_X4_playerAfter x = (x + 1) - (x + 1) / 3 * 3 := by
  obtain ⟨j, hj, rfl⟩ := vp_in_of h (by omega)
  rcases j with _ | _ | _ | j
  · decide
  · decide
  · decide
  · omega
theorem zafter2 {x : Int32} (h : vp_in x 3) : zf_X4_playerAfter (zf_X4_playerAfter x) = (x + 2) - (x + 2) / 3 * 3 := by
  obtain ⟨j, hj, rfl⟩ := vp_in_of h (by omega)
  rcases j with _ | _ | _ | j
  · decide
  · decide
  · decide
  · omega
theorem zafter_in {x : Int32} (h : vp_in x 3) : vp_in (zf_X4_playerAfter x) 3 := by
  obtain ⟨j, hj, rfl⟩ := vp_in_of h (by omega)
  rcases j with _ | _ | _ | j
  · exact vp_in_iff.mpr (by decide)
  · exact vp_in_iff.mpr (by decide)
  · exact vp_in_iff.mpr (by decide)
  · omega
theorem zmodN (d : Nat) (hd : d < 1000) : (nI d) - (nI d) / 3 * 3 = nI (d % 3) := by
  rw [show (3 : Int32) = nI 3 from rfl, pk_rem (by omega) (by omega) (by omega)]
/-! decks -/
theorem zupdL_self (f : Nat → Int64) (k : Nat) : vp_updL f k (f k) = f := by
  funext j
  show (if j = k then f k else f j) = f j
  by_cases h : j = k
  · rw [if_pos h, h]
  · rw [if_neg h]
theorem zupdL_two (f : Nat → Int64) (k : Nat) (x y : Int64) : vp_updL (vp_updL f k x) k y = vp_updL f k y := by
  funext j
  show (if j = k then y else if j = k then x else f j) = if j = k then y else f j
  by_cases h : j = k
  · rw [if_pos h, if_pos h]
  · rw [if_neg h, if_neg h, if_neg h]
/-- what a deck's shuffle leaves of all else -/
def zuX (u w : zU) : Prop := u = zusD w (zuD u)
def zmX (v w : zN) : Prop := v = zmsD w (zmD v)
theorem zseed {n : Nat} (hn : n < 2147483648) : (((lN n * 1103515245) + 12345) &&& 2147483647) = lN ((n * 1103515245 + 12345) % 2147483648) := by
  rw [zl_and, show (1103515245 : Int64) = lN 1103515245 from rfl, show (12345 : Int64) = lN 12345 from rfl, lN_mul, lN_add]
  have e : ∀ q : Nat, q < 18446744073709551616 → (lN q).toBitVec.toNat = q := fun q hq => by
    show (BitVec.ofNat 64 q).toNat = q
    rw [BitVec.toNat_ofNat]
    exact Nat.mod_eq_of_lt hq
  rw [e _ (by omega)]
theorem zexch (w : zU) {i j : Nat} (hi : i < 32) (hj : j < 32) : zf_X4_exchange w (nI i) (nI j) = zuD1 (zuD1 w i (zuD w j)) j (zuD w i) := by
  have h0 : ∀ q : Nat, q < 32 → ¬ nI q < 0 := fun q hq => by
    rw [show (0 : Int32) = nI 0 from rfl]; exact nI_nlt (by omega) (by omega)
  unfold zf_X4_exchange
  rw [if_neg (h0 i hi), if_neg (zge (N := 32) (by rfl) hi (by decide)), if_neg (h0 j hj), if_pos (show nI j < 32 from (show (32 : Int32) = nI 32 from rfl) ▸ nI_lt hj (by omega)), nI_clamp (by omega), nI_clamp (by omega)]
theorem zmix (u : zU) (v : zN) (p : Int32) : ∀ (k n : Nat) (w : zU) (z : zN), k < 32 → n < 2147483648 → (∀ j, j < 32 → zuD w j = zmD z j) →
    (∀ j, j < 32 → zuD (zl_X4_shuffle_mix u p k (lN n) w) j = zmD (zl_X5_shuffles_mix v p k (lN n) z) j) ∧ zuX (zl_X4_shuffle_mix u p k (lN n) w) w ∧ zmX (zl_X5_shuffles_mix v p k (lN n) z) z := by
  intro k
  induction k with
  | zero => intro n w z hk hn h; exact ⟨h, rfl, rfl⟩
  | succ k ih =>
    intro n w z hk hn h
    have e4 : ∀ w9 : zU, zl_X4_shuffle_mix u p (k + 1) (lN n) w9 = zl_X4_shuffle_mix u p k (lN ((n * 1103515245 + 12345) % 2147483648)) (zuD1 (zuD1 w9 (k + 1) (zuD w9 (((n * 1103515245 + 12345) % 2147483648) / 65536 % (k + 2)))) (((n * 1103515245 + 12345) % 2147483648) / 65536 % (k + 2)) (zuD w9 (k + 1))) := by
      intro w9
      conv => lhs; unfold zl_X4_shuffle_mix
      have hq := Nat.mod_lt (((n * 1103515245 + 12345) % 2147483648) / 65536) (show 0 < k + 2 by omega)
      rw [zseed hn, zl_idx (by omega) (by omega), zexch _ (by omega) (by omega)]
    have e5 : ∀ w9 : zN, zl_X5_shuffles_mix v p (k + 1) (lN n) w9 = zl_X5_shuffles_mix v p k (lN ((n * 1103515245 + 12345) % 2147483648)) (zmD1 (zmD1 w9 (k + 1) (zmD w9 (((n * 1103515245 + 12345) % 2147483648) / 65536 % (k + 2)))) (((n * 1103515245 + 12345) % 2147483648) / 65536 % (k + 2)) (zmD w9 (k + 1))) := by
      intro w9
      conv => lhs; unfold zl_X5_shuffles_mix
      rw [zs_stepN hn, zl_idx (by omega) (by omega), nI_clamp (by have := Nat.mod_lt (((n * 1103515245 + 12345) % 2147483648) / 65536) (show 0 < k + 2 by omega); omega)]
    rw [e4, e5]
    have hq := Nat.mod_lt (((n * 1103515245 + 12345) % 2147483648) / 65536) (show 0 < k + 2 by omega)
    generalize ((n * 1103515245 + 12345) % 2147483648) / 65536 % (k + 2) = q at hq ⊢
    obtain ⟨a1, a2, a3⟩ := ih ((n * 1103515245 + 12345) % 2147483648) (zuD1 (zuD1 w (k + 1) (zuD w q)) q (zuD w (k + 1))) (zmD1 (zmD1 z (k + 1) (zmD z q)) q (zmD z (k + 1))) (by omega) (by omega) (fun j hj => by
      show (if j = q then zuD w (k + 1) else if j = k + 1 then zuD w q else zuD w j) = (if j = q then zmD z (k + 1) else if j = k + 1 then zmD z q else zmD z j)
      rw [h (k + 1) (by omega), h q (by omega), h j hj])
    exact ⟨a1, a2, a3⟩
theorem zfill (u : zU) (v : zN) (n : Nat) (hn : n < 2147483648) : ∀ (k i : Nat) (w : zU) (z : zN), i + k = 32 → (∀ j, j < i → zuD w j = zmD z j) →
    (∀ j, j < 32 → zuD (zl_X4_shuffle_fill u (nI n) k i w) j = zmD (zl_X5_shuffles_fill v (nI n) k i z) j) ∧ zuX (zl_X4_shuffle_fill u (nI n) k i w) w ∧ zmX (zl_X5_shuffles_fill v (nI n) k i z) z := by
  intro k
  induction k with
  | zero =>
    intro i w z hi h
    have e : (nI n).toInt64 = lN n := nI_l hn
    show (∀ j, j < 32 → zuD (zl_X4_shuffle_mix u (nI n) 31 (nI n).toInt64 w) j = zmD (zl_X5_shuffles_mix v (nI n) 31 (nI n).toInt64 z) j) ∧ zuX (zl_X4_shuffle_mix u (nI n) 31 (nI n).toInt64 w) w ∧ zmX (zl_X5_shuffles_mix v (nI n) 31 (nI n).toInt64 z) z
    rw [e]
    exact zmix u v _ 31 n w z (by omega) hn (fun j hj => h j (by omega))
  | succ k ih =>
    intro i w z hi h
    exact ih (i + 1) (zuD1 w i (nI i)) (zmD1 z i (nI i)) (by omega) (fun j hj => by
      show (if j = i then nI i else zuD w j) = (if j = i then nI i else zmD z j)
      by_cases h1 : j = i
      · rw [if_pos h1, if_pos h1]
      · rw [if_neg h1, if_neg h1]; exact h j (by omega))
theorem zshuf (u : zU) (v : zN) {n : Nat} (hn : n < 2147483648) : (∀ j, j < 32 → zuD (zf_X4_shuffle u (nI n)) j = zmD (zf_X5_shuffles v (nI n)) j) ∧ zuX (zf_X4_shuffle u (nI n)) u ∧ zmX (zf_X5_shuffles v (nI n)) v :=
  zfill u v n hn 32 0 u v rfl (fun j hj => absurd hj (by omega))
/-! cards given out -/
def zor (D : Nat → Int32) : Nat → Nat → Int64 → Int64
  | 0, i, a => a
  | k + 1, i, a => zor D k (i + 1) (a ||| ((1 : Int64) <<< ((D i).toInt64 &&& 63)))
theorem zor_congr (D E : Nat → Int32) : ∀ (k i : Nat) (a : Int64), (∀ j, i ≤ j → j < i + k → D j = E j) → zor D k i a = zor E k i a := by
  intro k
  induction k with
  | zero => intro i a h; rfl
  | succ k ih =>
    intro i a h
    show zor D k (i + 1) _ = zor E k (i + 1) _
    rw [h i (by omega) (by omega)]
    exact ih _ _ (fun j h1 h2 => h j (by omega) (by omega))
theorem zgive_b (u : zU) (b : Nat) : ∀ (k r i : Nat) (w : zU), i + k ≤ 30 → (∀ j, i ≤ j → j < i + k → j / 10 = b) → b < 3 →
    zl_X4_giveCards_lp u (k + r) i w = zl_X4_giveCards_lp u r (i + k) (zusC w (vp_updL (zuC w) b (zor (zuD w) k i (zuC w b)))) := by
  intro k
  induction k with
  | zero =>
    intro r i w h1 h2 h3
    rw [Nat.zero_add, Nat.add_zero]
    show _ = zl_X4_giveCards_lp u r i (zusC w (vp_updL (zuC w) b (zuC w b)))
    rw [zupdL_self]
    rfl
  | succ k ih =>
    intro r i w h1 h2 h3
    have e1 : ¬ (30 : Int32) ≤ nI i := by
      rw [show (30 : Int32) = nI 30 from rfl, nI_leI (by omega) (by omega)]; omega
    have e2 : zf_X4_seat w (nI i / 10) = b := by
      rw [show (10 : Int32) = nI 10 from rfl, pk_div (by omega) (by omega) (by omega), h2 i (by omega) (by omega), zseat w (vp_in_nI h3 (by omega)), nI_clamp (by omega)]
    rw [show k + 1 + r = (k + r) + 1 by omega]
    show (if (30 : Int32) ≤ nI i then _ else zl_X4_giveCards_lp u (k + r) (i + 1) (zuC1 w (zf_X4_seat w (nI i / 10)) (zuC w (zf_X4_seat w (nI i / 10)) ||| zf_X1_setOf (zuD w i)))) = _
    rw [if_neg e1, e2, ih r (i + 1) _ (by omega) (fun j q1 q2 => h2 j (by omega) (by omega)) h3, show i + 1 + k = i + (k + 1) by omega]
    congr 1
    show zusC w (vp_updL (vp_updL (zuC w) b _) b (zor (zuD w) k (i + 1) (if b = b then _ else _))) = zusC w (vp_updL (zuC w) b (zor (zuD w) k (i + 1) _))
    rw [zupdL_two, if_pos rfl]
    rfl
theorem zgive_k (u : zU) (w : zU) : zl_X4_giveCards_lp u 2 30 w = zusK w (((zuK w) ||| zf_X1_setOf (zuD w 30)) ||| zf_X1_setOf (zuD w 31)) := by
  show (if (30 : Int32) ≤ nI 30 then _ else _) = _
  rw [if_pos (by decide)]
  show (if (30 : Int32) ≤ nI 31 then _ else _) = _
  rw [if_pos (by decide)]
  rfl
theorem zgive (u : zU) : zf_X4_giveCards u = zusK (zusC u (vp_updL (vp_updL (vp_updL (zuC u) 0 (zor (zuD u) 10 0 (zuC u 0))) 1 (zor (zuD u) 10 10 (zuC u 1))) 2 (zor (zuD u) 10 20 (zuC u 2)))) ((0 ||| zf_X1_setOf (zuD u 30)) ||| zf_X1_setOf (zuD u 31)) := by
  show zl_X4_giveCards_lp u (10 + 22) 0 (zusK u 0) = _
  rw [zgive_b u 0 10 22 0 _ (by omega) (fun j _ _ => by omega) (by omega)]
  show zl_X4_giveCards_lp u (10 + 12) 10 _ = _
  rw [zgive_b u 1 10 12 10 _ (by omega) (fun j _ _ => by omega) (by omega)]
  show zl_X4_giveCards_lp u (10 + 2) 20 _ = _
  rw [zgive_b u 2 10 2 20 _ (by omega) (fun j _ _ => by omega) (by omega)]
  show zl_X4_giveCards_lp u 2 30 _ = _
  rw [zgive_k]
  rfl
theorem zstepC (w : zN) (b : Nat) (y X : Int64) : zmsC (zmC1 w b y) (vp_updL (zmC (zmC1 w b y)) b X) = zmsC w (vp_updL (zmC w) b X) := by
  show zmsC w (vp_updL (vp_updL (zmC w) b y) b X) = _
  rw [zupdL_two]
/-- the model's reset of one player -/
def zrs (w : zN) (j : Nat) : zN := zmT1 (zmP1 (zmL1 (zmC1 w j 0) j 0) j 0) j 0
theorem zin0 (v : zN) (p : Int32) : ∀ (k i : Nat) (w : zN), zl_X5_begins_in0 v p k i w = zl_X5_begins_in1 v p 10 10 (zrs (zmsC w (vp_updL (zmC w) 0 (zor (zmD w) k i (zmC w 0)))) 1) := by
  intro k
  induction k with
  | zero => intro i w; show _ = zl_X5_begins_in1 v p 10 10 (zrs (zmsC w (vp_updL (zmC w) 0 (zmC w 0))) 1); rw [zupdL_self]; rfl
  | succ k ih =>
    intro i w
    show zl_X5_begins_in0 v p k (i + 1) (zmC1 w 0 _) = _
    rw [ih]
    rw [zstepC]
    rfl
theorem zin1 (v : zN) (p : Int32) : ∀ (k i : Nat) (w : zN), zl_X5_begins_in1 v p k i w = zl_X5_begins_in2 v p 10 20 (zrs (zmsC w (vp_updL (zmC w) 1 (zor (zmD w) k i (zmC w 1)))) 2) := by
  intro k
  induction k with
  | zero => intro i w; show _ = zl_X5_begins_in2 v p 10 20 (zrs (zmsC w (vp_updL (zmC w) 1 (zmC w 1))) 2); rw [zupdL_self]; rfl
  | succ k ih =>
    intro i w
    show zl_X5_begins_in1 v p k (i + 1) (zmC1 w 1 _) = _
    rw [ih]
    rw [zstepC]
    rfl
theorem zin2 (v : zN) (p : Int32) : ∀ (k i : Nat) (w : zN), zl_X5_begins_in2 v p k i w = zl_X5_begins_in2 v p 0 0 (zmsC w (vp_updL (zmC w) 2 (zor (zmD w) k i (zmC w 2)))) := by
  intro k
  induction k with
  | zero => intro i w; show _ = zl_X5_begins_in2 v p 0 0 (zmsC w (vp_updL (zmC w) 2 (zmC w 2))); rw [zupdL_self]; rfl
  | succ k ih =>
    intro i w
    show zl_X5_begins_in2 v p k (i + 1) (zmC1 w 2 _) = _
    rw [ih]
    rw [zstepC]
    rfl
