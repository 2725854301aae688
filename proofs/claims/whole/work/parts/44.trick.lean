/-! colours and heights, by the contract alone -/
def zco (t c : Int32) : Int32 := if t = 5 then c / 8 else (if (c - c / 8 * 8) = 7 then 4 else (if (c / 8) = t then 4 else c / 8))
def zhe (t c : Int32) : Int32 := if t = 5 then (if 3 ≤ (c - c / 8 * 8) then (if (c - c / 8 * 8) = 5 then 3 else (if (c - c / 8 * 8) = 7 then 4 else (if (c - c / 8 * 8) = 3 then 5 else (if (c - c / 8 * 8) = 4 then 6 else 7)))) else c - c / 8 * 8) else (if (c - c / 8 * 8) = 7 then 7 + (c / 8) else c - c / 8 * 8)
theorem zco_eq (v : zN) (c : Int32) : zf_X5_colour v c = zco (zmI v 13) c := rfl
theorem zhe_eq (v : zN) (c : Int32) : zf_X5_height v c = zhe (zmI v 13) c := rfl
/-! the cards open to be played -/
def zmk (t r : Int32) : Nat → Nat → Int64 → Int64
  | 0, i, m => m
  | k + 1, i, m => zmk t r k (i + 1) (m ||| (if zco t (nI i) = zco t r then zf_X1_setOf (nI i) else 0))
theorem zmk_t : ∀ t, t < 7 → ∀ r, r < 32 → zmk (nI t) (nI r) 32 0 0 = zf_X1_colourOf (nI r) (nI t) := by decide +kernel
theorem zand_or (x y z : Int64) : x &&& (y ||| z) = (x &&& y) ||| (x &&& z) := by
  apply Int64.toBitVec_inj.mp
  simp only [Int64.toBitVec_and, Int64.toBitVec_or]
  ext i
  simp only [BitVec.getElem_and, BitVec.getElem_or]
  cases x.toBitVec[i] <;> simp
theorem zand_z (x : Int64) : x &&& 0 = 0 := by
  apply Int64.toBitVec_inj.mp
  rw [Int64.toBitVec_and]
  exact BitVec.and_zero
theorem zor_z (x : Int64) : x ||| 0 = x := by
  apply Int64.toBitVec_inj.mp
  rw [Int64.toBitVec_or]
  exact BitVec.or_zero
theorem zz_or (x : Int64) : 0 ||| x = x := by
  apply Int64.toBitVec_inj.mp
  rw [Int64.toBitVec_or]
  exact BitVec.zero_or
theorem zopen_lp (v : zN) (h17 : ¬ zmI v 17 ≤ 0) : ∀ (k i : Nat) (m : Int64), zl_X5_open_lp v k i (zmC v ((zmI v 3).toNatClampNeg) &&& m) = if lg_cmp (zmC v ((zmI v 3).toNatClampNeg) &&& zmk (zmI v 13) (zmR v 0) k i m) 0 = 0 then zmC v ((zmI v 3).toNatClampNeg) else zmC v ((zmI v 3).toNatClampNeg) &&& zmk (zmI v 13) (zmR v 0) k i m := by
  intro k
  induction k with
  | zero => intro i m; rfl
  | succ k ih =>
    intro i m
    have e : (if (if zf_X5_has (zmC v ((zmI v 3).toNatClampNeg)) (nI i) = 0 then (0 : Int32) else if zmI v 17 ≤ 0 then (0 : Int32) else if zf_X5_colour v (nI i) = zf_X5_colour v (zmR v 0) then (1 : Int32) else 0) = 0 then (0 : Int64) else 1 <<< ((nI i).toInt64 &&& 63)) = zmC v ((zmI v 3).toNatClampNeg) &&& (if zco (zmI v 13) (nI i) = zco (zmI v 13) (zmR v 0) then zf_X1_setOf (nI i) else 0) := by
      rw [zhas, if_neg h17, zco_eq, zco_eq]
      by_cases h2 : zco (zmI v 13) (nI i) = zco (zmI v 13) (zmR v 0)
      · rw [if_pos h2, if_pos h2]
        by_cases h1 : lg_cmp (zmC v ((zmI v 3).toNatClampNeg) &&& zf_X1_setOf (nI i)) 0 = 0
        · rw [if_pos h1, if_pos rfl, if_pos rfl]
          exact (zlc0.mp h1).symm
        · rw [if_neg h1, if_neg (by decide)]
          show (1 : Int64) <<< ((nI i).toInt64 &&& 63) = zmC v _ &&& ((1 : Int64) <<< ((nI i).toInt64 &&& 63))
          rw [zand1]
          exact (if_neg (fun h => h1 (zlc0.mpr h))).symm
      · rw [if_neg h2, if_neg h2, zand_z]
        by_cases h1 : lg_cmp (zmC v ((zmI v 3).toNatClampNeg) &&& zf_X1_setOf (nI i)) 0 = 0
        · rw [if_pos h1, if_pos rfl, if_pos rfl]
        · rw [if_neg h1, if_neg (show ¬ (1 : Int32) = 0 by decide), if_pos rfl]
    have e2 : ∀ x1, zl_X5_open_lp v (k + 1) i x1 = zl_X5_open_lp v k (i + 1) (x1 ||| (if (if zf_X5_has (zmC v ((zmI v 3).toNatClampNeg)) (nI i) = 0 then (0 : Int32) else if zmI v 17 ≤ 0 then (0 : Int32) else if zf_X5_colour v (nI i) = zf_X5_colour v (zmR v 0) then (1 : Int32) else 0) = 0 then (0 : Int64) else 1 <<< ((nI i).toInt64 &&& 63))) := fun _ => rfl
    rw [e2, e, ← zand_or, ih]
    rfl
theorem zopen_0 (v : zN) (h17 : zmI v 17 ≤ 0) : ∀ (k i : Nat), zl_X5_open_lp v k i 0 = zmC v ((zmI v 3).toNatClampNeg) := by
  intro k
  induction k with
  | zero => intro i; exact if_pos (zlc0.mpr rfl)
  | succ k ih =>
    intro i
    conv => lhs; unfold zl_X5_open_lp
    rw [if_pos h17]
    have e : (if (if zf_X5_has (zmC v ((zmI v 3).toNatClampNeg)) (nI i) = 0 then (0 : Int32) else 0) = 0 then (0 : Int64) else 1 <<< ((nI i).toInt64 &&& 63)) = 0 := by
      by_cases h : zf_X5_has (zmC v ((zmI v 3).toNatClampNeg)) (nI i) = 0
      · rw [if_pos h, if_pos rfl]
      · rw [if_neg h, if_pos rfl]
    rw [e, zor_z]
    exact ih _
theorem zopen_1 (v : zN) (h17 : ¬ zmI v 17 ≤ 0) {t r : Nat} (ht : t < 7) (hr : r < 32) (h13 : zmI v 13 = nI t) (hR : zmR v 0 = nI r) : zf_X5_open v = if lg_cmp (zmC v ((zmI v 3).toNatClampNeg) &&& zf_X1_colourOf (nI r) (nI t)) 0 = 0 then zmC v ((zmI v 3).toNatClampNeg) else zmC v ((zmI v 3).toNatClampNeg) &&& zf_X1_colourOf (nI r) (nI t) := by
  have h := zopen_lp v h17 32 0 0
  rw [zand_z, h13, hR, zmk_t t ht r hr] at h
  exact h
/-! the winner of a trick -/
def zst (c h d : Int32) : Int32 := if c = 4 then (if 7 ≤ h then 193 + h else 100 + h) else if c = d then 1 + h else 0
def zov (c h d g : Int32) : Int32 := if c = d then (if h ≤ g then 0 else 1) else if c = 4 then 1 else 0
theorem zov_eq (v : zN) (p q : Int32) : zf_X5_isOver v p q = zov (zco (zmI v 13) p) (zhe (zmI v 13) p) (zco (zmI v 13) q) (zhe (zmI v 13) q) := rfl
theorem zst_t : ∀ t, t < 7 → ∀ c, c < 32 → ∀ r, r < 32 → zf_X1_strength (nI c) (nI r) (nI t) = zst (zco (nI t) (nI c)) (zhe (nI t) (nI c)) (zco (nI t) (nI r)) := by decide +kernel
theorem zco_t : ∀ t, t < 7 → ∀ c, c < 32 → (0 ≤ (zco (nI t) (nI c)).toInt ∧ (zco (nI t) (nI c)).toInt < (5 : Nat)) ∧ 0 ≤ (zhe (nI t) (nI c)).toInt ∧ (zhe (nI t) (nI c)).toInt < (11 : Nat) := by decide +kernel
theorem zst_p : ∀ a, a < 5 → ∀ h, h < 11 → ∀ b, b < 5 → ∀ g, g < 11 → (zst (nI a) (nI h) (nI b) ≤ zst (nI b) (nI g) (nI b) ↔ zov (nI a) (nI h) (nI b) (nI g) = 0) := by decide +kernel
theorem zst_3 : ∀ a, a < 5 → ∀ h, h < 11 → ∀ b, b < 5 → ∀ g, g < 11 → (zst (nI a) (nI h) (nI b) ≤ zst 4 (nI g) (nI b) ↔ zov (nI a) (nI h) 4 (nI g) = 0) := by decide +kernel
def zbest (v : zN) : Int32 := if (zf_X5_isOver v (zmR v 1) (zmR v 0)) = 0 then (if (zf_X5_isOver v (zmR v 2) (zmR v 0)) = 0 then 0 else 2) else (if (zf_X5_isOver v (zmR v 2) (zmR v 1)) = 0 then 1 else 2)
theorem zbest_w (v : zN) : zf_X5_wins v = zk_X5_wins_40 v (zbest v) := by
  unfold zf_X5_wins zbest
  split <;> split <;> rfl
theorem zover_n {c h d g : Int32} (hn : ¬ zov c h d g = 0) : c = d ∨ c = 4 := by
  unfold zov at hn
  by_cases h1 : c = d
  · exact Or.inl h1
  · rw [if_neg h1] at hn
    by_cases h2 : c = 4
    · exact Or.inr h2
    · rw [if_neg h2] at hn; exact absurd rfl hn
theorem zwinner (u : zU) (v : zN) {t r0 r1 r2 : Nat} (ht : t < 7) (h0 : r0 < 32) (h1 : r1 < 32) (h2 : r2 < 32) (h13 : zmI v 13 = nI t) (e0 : zmR v 0 = nI r0) (e1 : zmR v 1 = nI r1) (e2 : zmR v 2 = nI r2)
    (c0 : zf_X3_cardAt u 0 = nI r0) (c1 : zf_X3_cardAt u 1 = nI r1) (c2 : zf_X3_cardAt u 2 = nI r2) : zf_X3_winningPlace u (nI t) = zbest v := by
  unfold zf_X3_winningPlace zbest
  rw [c0, c1, c2, e0, e1, e2, zov_eq, zov_eq, zov_eq, h13, zst_t t ht r1 h1 r0 h0, zst_t t ht r0 h0 r0 h0, zst_t t ht r2 h2 r0 h0]
  obtain ⟨a0, b0⟩ := zco_t t ht r0 h0
  obtain ⟨a1, b1⟩ := zco_t t ht r1 h1
  obtain ⟨a2, b2⟩ := zco_t t ht r2 h2
  obtain ⟨x0, l0, f0⟩ := vp_in_of (vp_in_iff.mpr a0) (by omega)
  obtain ⟨x1, l1, f1⟩ := vp_in_of (vp_in_iff.mpr a1) (by omega)
  obtain ⟨x2, l2, f2⟩ := vp_in_of (vp_in_iff.mpr a2) (by omega)
  obtain ⟨y0, m0, g0⟩ := vp_in_of (vp_in_iff.mpr b0) (by omega)
  obtain ⟨y1, m1, g1⟩ := vp_in_of (vp_in_iff.mpr b1) (by omega)
  obtain ⟨y2, m2, g2⟩ := vp_in_of (vp_in_iff.mpr b2) (by omega)
  rw [f0, f1, f2, g0, g1, g2]
  have p1 := zst_p x1 l1 y1 m1 x0 l0 y0 m0
  have p2 := zst_p x2 l2 y2 m2 x0 l0 y0 m0
  by_cases q1 : zov (nI x1) (nI y1) (nI x0) (nI y0) = 0
  · rw [if_pos q1, if_pos (p1.mpr q1)]
    by_cases q2 : zov (nI x2) (nI y2) (nI x0) (nI y0) = 0
    · rw [if_pos q2, if_pos (p2.mpr q2)]
    · rw [if_neg q2, if_neg (fun h => q2 (p2.mp h))]
  · rw [if_neg q1, if_neg (fun h => q1 (p1.mp h))]
    have p3 : zst (nI x2) (nI y2) (nI x0) ≤ zst (nI x1) (nI y1) (nI x0) ↔ zov (nI x2) (nI y2) (nI x1) (nI y1) = 0 := by
      rcases zover_n q1 with e | e
      · rw [e]; exact zst_p x2 l2 y2 m2 x0 l0 y1 m1
      · rw [e]; exact zst_3 x2 l2 y2 m2 x0 l0 y1 m1
    by_cases q2 : zov (nI x2) (nI y2) (nI x1) (nI y1) = 0
    · rw [if_pos q2, if_pos (p3.mpr q2)]
    · rw [if_neg q2, if_neg (fun h => q2 (p3.mp h))]
