theorem zdn {k : Nat} (h : k < 1000) : ¬ nI (k + 1) < 1 := by
  have e : (1 : Int32) = nI 1 := by rfl
  rw [e]; exact nI_nlt (by omega) (by omega)
theorem zk2 {k : Nat} (hk : k < 31) : ((nI (k + 1)) + 1).toInt64 = lN (k + 2) := by
  rw [nI_1, nI_l (by omega)]
theorem zsh_ne {k : Nat} (hk : k < 31) : ¬ ((nI (k + 1)) + 1).toInt64 = 0 := by
  rw [zk2 hk, show (0 : Int64) = lN 0 from rfl, pk_lEQ (by omega) (by omega)]
  omega
theorem zl_and (x : Int64) : x &&& 2147483647 = lN (x.toBitVec.toNat % 2147483648) := by
  apply Int64.toBitVec_inj.mp
  apply BitVec.eq_of_toNat_eq
  rw [Int64.toBitVec_and, BitVec.toNat_and, show (2147483647 : Int64).toBitVec.toNat = 2 ^ 31 - 1 by decide, Nat.and_two_pow_sub_one_eq_mod]
  show _ = (BitVec.ofNat 64 _).toNat
  rw [BitVec.toNat_ofNat, Nat.mod_eq_of_lt (a := x.toBitVec.toNat % 2147483648) (by omega)]
theorem zl_idx {n k : Nat} (hn : n < 2147483648) (hk : k < 31) : (((lN n / 65536) - (lN n / 65536) / (((nI (k + 1)) + 1).toInt64) * (((nI (k + 1)) + 1).toInt64)).toInt32) = nI (n / 65536 % (k + 2)) := by
  rw [zk2 hk, show (65536 : Int64) = lN 65536 from rfl, pk_lDiv (by omega) (by omega) (by omega), pk_lRem (by omega) (by omega) (by omega), lN_i]
theorem zsh_in {x : Int64} {k : Nat} (hk : k < 31) : vp_in ((((x &&& 2147483647) / 65536) - ((x &&& 2147483647) / 65536) / (((nI (k + 1)) + 1).toInt64) * (((nI (k + 1)) + 1).toInt64)).toInt32) 32 := by
  rw [zl_and, zl_idx (by omega) hk]
  exact vp_in_nI (Nat.lt_of_lt_of_le (Nat.mod_lt _ (by omega)) (by omega)) (by omega)
def zf_X4_exchange (u : zU) (p0 : Int32) (p1 : Int32) : zU := if p0 < 0 then u else (if 32 ≤ p0 then u else (if p1 < 0 then u else (if p1 < 32 then zuD1 (zuD1 u p0.toNatClampNeg (zuD u p1.toNatClampNeg)) p1.toNatClampNeg (zuD u p0.toNatClampNeg) else u)))
abbrev zR_X4_exchange : Room := { frames := 0, cells := 0, slots := 0, locals := 0 }
set_option maxHeartbeats 4000000 in
set_option maxRecDepth 100000 in
theorem zc_X4_exchange {l : Launch} {D : va_G} {C : ClassId × ClassId} {a : Nat → Nat} {u : zU} {p0 : Int32} {p1 : Int32} : zk_Mm l yX4_exchange cX4_exchange 4 none zR_X4_exchange [.ref (a 0), .int (p0), .int (p1)] (zS C a u) D C (fun A => va_Qv (fun u' => u' = zf_X4_exchange u p0 p1) (fun u' t => va_P D vwCl (zS C a u') t.heap) A) := by
  refine zk_mm (by decide) (Nat.le_of_ble_eq_true rfl) ?_
  intro p e s m below meth c A X Y hD hA
  generalize hv : zf_X4_exchange u p0 p1 = V
  unfold zf_X4_exchange at hv
  show zJ _ _ _ _ _ _ _ _ _ _ _ _ _ _ _ _ _ 0 [(0, .ref (a 0)), (1, .int (p0)), (2, .int (p1))] []
  refine zj_iload_n 1 X 1 dX4_exchange_0 rfl rfl ?_
  refine zj_if_lt 4 26 X dX4_exchange_1 (by decide) rfl (fun c1 => ?_) (fun c1 => ?_)
  · rw [if_pos c1] at hv
    exact ze_vm (Wd := zS C a) (u := u) X Y hv dX4_exchange_26
  · rw [if_neg c1] at hv
    refine zj_iload_n 5 X 1 dX4_exchange_4 rfl rfl ?_
    refine zj_aload_n 6 X 0 dX4_exchange_5 rfl rfl ?_
    refine zg_RX4_29 9 X dX4_exchange_6 rfl ?_
    refine zn_S_deck 10 X dX4_exchange_9 rfl ?_
    refine zj_icmp_ge 13 26 X dX4_exchange_10 (by decide) rfl (fun c2 => ?_) (fun c2 => ?_)
    · rw [if_pos c2] at hv
      exact ze_vm (Wd := zS C a) (u := u) X Y hv dX4_exchange_26
    · rw [if_neg c2] at hv
      refine zj_iload_n 14 X 2 dX4_exchange_13 rfl rfl ?_
      refine zj_if_lt 17 26 X dX4_exchange_14 (by decide) rfl (fun c3 => ?_) (fun c3 => ?_)
      · rw [if_pos c3] at hv
        exact ze_vm (Wd := zS C a) (u := u) X Y hv dX4_exchange_26
      · rw [if_neg c3] at hv
        refine zj_iload_n 18 X 2 dX4_exchange_17 rfl rfl ?_
        refine zj_aload_n 19 X 0 dX4_exchange_18 rfl rfl ?_
        refine zg_RX4_29 22 X dX4_exchange_19 rfl ?_
        refine zn_S_deck 23 X dX4_exchange_22 rfl ?_
        refine zj_icmp_lt 26 27 X dX4_exchange_23 (by decide) rfl (fun c4 => ?_) (fun c4 => ?_)
        · rw [if_pos c4] at hv
          refine zj_aload_n 28 X 0 dX4_exchange_27 rfl rfl ?_
          refine zg_RX4_29 31 X dX4_exchange_28 rfl ?_
          refine zj_iload_n 32 X 1 dX4_exchange_31 rfl rfl ?_
          refine zl_S_deck 33 X (w := zuD u p0.toNatClampNeg) rfl (zin_lo (n := 32) c1 (Int32.not_le.mp c2) (by decide)) dX4_exchange_32 rfl ?_
          refine zj_istore_n 34 X (lv1 := [(0, .ref (a 0)), (1, .int (p0)), (2, .int (p1)), (3, .int (zuD u p0.toNatClampNeg))]) [1, 2, 3, 0] dX4_exchange_33 (by decide) rfl rfl ?_
          refine zj_aload_n 35 X 0 dX4_exchange_34 rfl rfl ?_
          refine zg_RX4_29 38 X dX4_exchange_35 rfl ?_
          refine zj_iload_n 39 X 1 dX4_exchange_38 rfl rfl ?_
          refine zj_aload_n 40 X 0 dX4_exchange_39 rfl rfl ?_
          refine zg_RX4_29 43 X dX4_exchange_40 rfl ?_
          refine zj_iload_n 44 X 2 dX4_exchange_43 rfl rfl ?_
          refine zl_S_deck 45 X (w := zuD u p1.toNatClampNeg) rfl (zin_lo (n := 32) c3 c4 (by decide)) dX4_exchange_44 rfl ?_
          refine zt_S_deck 46 X (zD_S _ hD) (zin_lo (n := 32) c1 (Int32.not_le.mp c2) (by decide)) dX4_exchange_45 rfl ?_
          refine zj_aload_n 47 X 0 dX4_exchange_46 rfl rfl ?_
          refine zg_RX4_29 50 X dX4_exchange_47 rfl ?_
          refine zj_iload_n 51 X 2 dX4_exchange_50 rfl rfl ?_
          refine zj_iload_n 52 X 3 dX4_exchange_51 rfl rfl ?_
          refine zt_S_deck 53 X (zD_S _ hD) (zin_lo (n := 32) c3 c4 (by decide)) dX4_exchange_52 rfl ?_
          exact ze_vm (Wd := zS C a) (u := zuD1 (zuD1 u p0.toNatClampNeg (zuD u p1.toNatClampNeg)) p1.toNatClampNeg (zuD u p0.toNatClampNeg)) X Y hv dX4_exchange_53
        · rw [if_neg c4] at hv
          exact ze_vm (Wd := zS C a) (u := u) X Y hv dX4_exchange_26
def zl_X4_shuffle_mix (u : zU) (p0 : Int32) : Nat → Int64 → zU → zU
  | 0, x2, w9 => w9
  | k + 1, x2, w9 => zl_X4_shuffle_mix u p0 k (((x2 * 1103515245) + 12345) &&& 2147483647) (zf_X4_exchange w9 (nI (k + 1)) ((((((x2 * 1103515245) + 12345) &&& 2147483647) / 65536) - ((((x2 * 1103515245) + 12345) &&& 2147483647) / 65536) / (((nI (k + 1)) + 1).toInt64) * (((nI (k + 1)) + 1).toInt64)).toInt32))
def zl_X4_shuffle_fill (u : zU) (p0 : Int32) : Nat → Nat → zU → zU
  | 0, i, w9 => zl_X4_shuffle_mix u p0 31 p0.toInt64 w9
  | k + 1, i, w9 => zl_X4_shuffle_fill u p0 k (i + 1) (zuD1 w9 i (nI i))
def zf_X4_shuffle (u : zU) (p0 : Int32) : zU := zl_X4_shuffle_fill u p0 32 0 u
abbrev zR_X4_shuffle : Room := { frames := 1, cells := 0, slots := 0, locals := 23 }
set_option maxHeartbeats 4000000 in
set_option maxRecDepth 100000 in
theorem zc_X4_shuffle {l : Launch} {D : va_G} {C : ClassId × ClassId} {a : Nat → Nat} {u : zU} {p0 : Int32} : zk_Mm l yX4_shuffle cX4_shuffle 5 none zR_X4_shuffle [.ref (a 0), .int (p0)] (zS C a u) D C (fun A => va_Qv (fun u' => u' = zf_X4_shuffle u p0) (fun u' t => va_P D vwCl (zS C a u') t.heap) A) := by
  refine zk_mm (by decide) (Nat.le_of_ble_eq_true rfl) ?_
  intro p e s m below meth c A X Y hD hA
  generalize hv : zf_X4_shuffle u p0 = V
  unfold zf_X4_shuffle at hv
  show zJ _ _ _ _ _ _ _ _ _ _ _ _ _ _ _ _ _ 0 [(0, .ref (a 0)), (1, .int (p0))] []
  refine zj_iconst 1 X (v := 0) dX4_shuffle_0 (by decide) rfl ?_
  refine zj_istore_n 2 X (lv1 := [(0, .ref (a 0)), (1, .int (p0)), (2, .int (0))]) [1, 2, 0] dX4_shuffle_1 (by decide) rfl rfl ?_
  have L1 : ∀ (k i : Nat)  (w9 : zU), i + k = 32 → zl_X4_shuffle_fill u p0 k i w9 = V → zJ p l e zR_X4_shuffle s m ([.ref (a 0), .int (p0)] : List Value).toArray below meth c 0 0 (MQ below (va_Qv (fun u' => u' = V) (fun u' t => va_P D vwCl (zS C a u') t.heap) A) ([.ref (a 0), .int (p0)] : List Value).toArray s 0 0 A) D (zk_Km A s) 5 (zS C a w9) 2 [(0, .ref (a 0)), (1, .int (p0)), (2, .int (nI i))] [] := by
    intro k
    induction k with
    | zero =>
      intro i w9 h1 hv
      rw [zl_X4_shuffle_fill] at hv
      refine zj_iload_n 3 X 2 dX4_shuffle_2 rfl rfl ?_
      refine zj_aload_n 4 X 0 dX4_shuffle_3 rfl rfl ?_
      refine zg_RX4_29 7 X dX4_shuffle_4 rfl ?_
      refine zn_S_deck 8 X dX4_shuffle_7 rfl ?_
      refine zj_icmp_ge 11 24 X dX4_shuffle_8 (by decide) rfl (fun _ => ?_) (fun c2 => absurd (zge0 (N := 32) (by rfl) (by omega)) c2)
      refine zj_iload_n 25 X 1 dX4_shuffle_24 rfl rfl ?_
      refine zj_i2l 26 X dX4_shuffle_25 rfl rfl ?_
      refine zj_lstore_n 27 X (lv1 := [(0, .ref (a 0)), (1, .int (p0)), (2, .long (p0.toInt64))]) [1, 2, 0] dX4_shuffle_26 (by decide) rfl rfl ?_
      refine zj_aload_n 28 X 0 dX4_shuffle_27 rfl rfl ?_
      refine zg_RX4_29 31 X dX4_shuffle_28 rfl ?_
      refine zn_S_deck 32 X dX4_shuffle_31 rfl ?_
      refine zj_iconst 33 X (v := 1) dX4_shuffle_32 (by decide) rfl ?_
      refine zj_isub 34 X dX4_shuffle_33 rfl ?_
      show zJ _ _ _ _ _ _ _ _ _ _ _ _ _ _ _ _ _ 34 [(0, .ref (a 0)), (1, .int (p0)), (2, .long (p0.toInt64))] [.int (31)]
      refine zj_istore 36 X (lv1 := [(0, .ref (a 0)), (1, .int (p0)), (2, .long (p0.toInt64)), (4, .int (31))]) [1, 2, 3, 0] dX4_shuffle_34 (by decide) rfl rfl ?_
      have L3 : ∀ (k : Nat) (x2 : Int64) (w9 : zU), k ≤ 31 → zl_X4_shuffle_mix u p0 k x2 w9 = V → zJ p l e zR_X4_shuffle s m ([.ref (a 0), .int (p0)] : List Value).toArray below meth c 0 0 (MQ below (va_Qv (fun u' => u' = V) (fun u' t => va_P D vwCl (zS C a u') t.heap) A) ([.ref (a 0), .int (p0)] : List Value).toArray s 0 0 A) D (zk_Km A s) 5 (zS C a w9) 36 [(0, .ref (a 0)), (1, .int (p0)), (2, .long (x2)), (4, .int (nI k))] [] := by
        intro k
        induction k with
        | zero =>
          intro x2 w9 h1 hv
          rw [zl_X4_shuffle_mix] at hv
          refine zj_iload 38 X 3 dX4_shuffle_36 rfl rfl ?_
          refine zj_iconst 39 X (v := 1) dX4_shuffle_38 (by decide) rfl ?_
          refine zj_icmp_lt 42 80 X dX4_shuffle_39 (by decide) rfl (fun _ => ?_) (fun c4 => absurd (by decide) c4)
          exact ze_vm (Wd := zS C a) (u := w9) X Y hv dX4_shuffle_80
        | succ k ih =>
          intro x2 w9 h1 hv
          rw [zl_X4_shuffle_mix] at hv
          refine zj_iload 38 X 3 dX4_shuffle_36 rfl rfl ?_
          refine zj_iconst 39 X (v := 1) dX4_shuffle_38 (by decide) rfl ?_
          refine zj_icmp_lt 42 80 X dX4_shuffle_39 (by decide) rfl (fun c5 => absurd c5 (zdn (by omega))) (fun _ => ?_)
          refine zj_lload_n 43 X 2 dX4_shuffle_42 rfl rfl ?_
          refine zj_ldc2 46 X (v := 1103515245) (zG_t 78 (by decide +kernel) rfl) dX4_shuffle_43 rfl ?_
          refine zj_lmul 47 X dX4_shuffle_46 rfl ?_
          refine zj_ldc2 50 X (v := 12345) (zG_t 79 (by decide +kernel) rfl) dX4_shuffle_47 rfl ?_
          refine zj_ladd 51 X dX4_shuffle_50 rfl ?_
          refine zj_ldc2 54 X (v := 2147483647) (zG_t 80 (by decide +kernel) rfl) dX4_shuffle_51 rfl ?_
          refine zj_land 55 X dX4_shuffle_54 rfl ?_
          refine zj_lstore_n 56 X (lv1 := [(0, .ref (a 0)), (1, .int (p0)), (2, .long (((x2 * 1103515245) + 12345) &&& 2147483647)), (4, .int (nI (k + 1)))]) [1, 2, 0, 3] dX4_shuffle_55 (by decide) rfl rfl ?_
          refine zj_aload_n 57 X 0 dX4_shuffle_56 rfl rfl ?_
          refine zj_iload 59 X 3 dX4_shuffle_57 rfl rfl ?_
          refine zj_lload_n 60 X 2 dX4_shuffle_59 rfl rfl ?_
          refine zj_ldc2 63 X (v := 65536) (zG_t 81 (by decide +kernel) rfl) dX4_shuffle_60 rfl ?_
          refine zj_ldiv 64 X dX4_shuffle_63 (by decide) rfl ?_
          refine zj_iload 66 X 3 dX4_shuffle_64 rfl rfl ?_
          refine zj_iconst 67 X (v := 1) dX4_shuffle_66 (by decide) rfl ?_
          refine zj_iadd 68 X dX4_shuffle_67 rfl ?_
          refine zj_i2l 69 X dX4_shuffle_68 rfl rfl ?_
          refine zj_lrem 70 X dX4_shuffle_69 (zsh_ne (by omega)) rfl ?_
          refine zj_l2i 71 X dX4_shuffle_70 rfl rfl ?_
          refine zc_vm 74 (Wd := zS C a) (zr_Vm (As := [.int (nI (k + 1)), .int ((((((x2 * 1103515245) + 12345) &&& 2147483647) / 65536) - ((((x2 * 1103515245) + 12345) &&& 2147483647) / 65536) / (((nI (k + 1)) + 1).toInt64) * (((nI (k + 1)) + 1).toInt64)).toInt32)]) (rest := []) X (zc_X4_exchange (l := l) (p0 := nI (k + 1)) (p1 := (((((x2 * 1103515245) + 12345) &&& 2147483647) / 65536) - ((((x2 * 1103515245) + 12345) &&& 2147483647) / 65536) / (((nI (k + 1)) + 1).toInt64) * (((nI (k + 1)) + 1).toInt64)).toInt32) (u := w9)) zw_X4_254 zn_X4_exchange (zcR_of rfl) zO_S0 (zD_S _ hD) hA rfl (Nat.le_of_ble_eq_true rfl) dX4_shuffle_71) (zD_S _ hD) hA rfl ?_
          refine zj_iinc 77 X (v := nI k) (lv1 := [(0, .ref (a 0)), (1, .int (p0)), (2, .long (((x2 * 1103515245) + 12345) &&& 2147483647)), (4, .int (nI k))]) 3 [1, 2, 3, 0] dX4_shuffle_74 rfl (zdec _) (by decide) rfl rfl ?_
          refine zj_goto 36 X dX4_shuffle_77 (by decide) ?_
          exact ih (((x2 * 1103515245) + 12345) &&& 2147483647) (zf_X4_exchange w9 (nI (k + 1)) ((((((x2 * 1103515245) + 12345) &&& 2147483647) / 65536) - ((((x2 * 1103515245) + 12345) &&& 2147483647) / 65536) / (((nI (k + 1)) + 1).toInt64) * (((nI (k + 1)) + 1).toInt64)).toInt32)) (by omega)  hv
      exact L3 31 p0.toInt64 w9 (by decide)  hv
    | succ k ih =>
      intro i w9 h1 hv
      rw [zl_X4_shuffle_fill] at hv
      refine zj_iload_n 3 X 2 dX4_shuffle_2 rfl rfl ?_
      refine zj_aload_n 4 X 0 dX4_shuffle_3 rfl rfl ?_
      refine zg_RX4_29 7 X dX4_shuffle_4 rfl ?_
      refine zn_S_deck 8 X dX4_shuffle_7 rfl ?_
      refine zj_icmp_ge 11 24 X dX4_shuffle_8 (by decide) rfl (fun c6 => absurd c6 (zge (N := 32) (by rfl) (by omega) (by decide))) (fun _ => ?_)
      refine zj_aload_n 12 X 0 dX4_shuffle_11 rfl rfl ?_
      refine zg_RX4_29 15 X dX4_shuffle_12 rfl ?_
      refine zj_iload_n 16 X 2 dX4_shuffle_15 rfl rfl ?_
      refine zj_iload_n 17 X 2 dX4_shuffle_16 rfl rfl ?_
      refine zt_S_deck 18 X (zD_S _ hD) (vp_in_nI (by omega) (by omega)) dX4_shuffle_17 rfl ?_
      rw [nI_clamp (by omega : i < 2147483648)]
      refine zj_iinc 21 X (v := nI (i + 1)) (lv1 := [(0, .ref (a 0)), (1, .int (p0)), (2, .int (nI (i + 1)))]) 2 [1, 2, 0] dX4_shuffle_18 rfl (zinc _) (by decide) rfl rfl ?_
      refine zj_goto 2 X dX4_shuffle_21 (by decide) ?_
      exact ih (i + 1)  (zuD1 w9 i (nI i)) (by omega)  hv
  exact L1 32 0 u (by decide)  hv
def zl_X4_giveCards_lp (u : zU) : Nat → Nat → zU → zU
  | 0, i, w9 => w9
  | k + 1, i, w9 => if 30 ≤ (nI i) then zl_X4_giveCards_lp u k (i + 1) (zusK w9 ((zuK w9) ||| (zf_X1_setOf (zuD w9 i)))) else zl_X4_giveCards_lp u k (i + 1) (zuC1 w9 (zf_X4_seat w9 ((nI i) / 10)) ((zuC w9 (zf_X4_seat w9 ((nI i) / 10))) ||| (zf_X1_setOf (zuD w9 i))))
def zf_X4_giveCards (u : zU) : zU := zl_X4_giveCards_lp u 32 0 (zusK u 0)
abbrev zR_X4_giveCards : Room := { frames := 1, cells := 0, slots := 0, locals := 21 }
set_option maxHeartbeats 4000000 in
set_option maxRecDepth 100000 in
theorem zc_X4_giveCards {l : Launch} {D : va_G} {C : ClassId × ClassId} {a : Nat → Nat} {u : zU} : zk_Mm l yX4_giveCards cX4_giveCards 4 none zR_X4_giveCards [.ref (a 0)] (zS C a u) D C (fun A => va_Qv (fun u' => u' = zf_X4_giveCards u) (fun u' t => va_P D vwCl (zS C a u') t.heap) A) := by
  refine zk_mm (by decide) (Nat.le_of_ble_eq_true rfl) ?_
  intro p e s m below meth c A X Y hD hA
  generalize hv : zf_X4_giveCards u = V
  unfold zf_X4_giveCards at hv
  show zJ _ _ _ _ _ _ _ _ _ _ _ _ _ _ _ _ _ 0 [(0, .ref (a 0))] []
  refine zj_aload_n 1 X 0 dX4_giveCards_0 rfl rfl ?_
  refine zj_lconst 2 X (v := 0) dX4_giveCards_1 (by decide) rfl ?_
  refine zp_RX4_103 5 X (zD_S _ hD) dX4_giveCards_2 rfl ?_
  refine zj_iconst 6 X (v := 0) dX4_giveCards_5 (by decide) rfl ?_
  refine zj_istore_n 7 X (lv1 := [(0, .ref (a 0)), (1, .int (0))]) [1, 0] dX4_giveCards_6 (by decide) rfl rfl ?_
  have L1 : ∀ (k i : Nat)  (w9 : zU), i + k = 32 → zl_X4_giveCards_lp u k i w9 = V → zJ p l e zR_X4_giveCards s m ([.ref (a 0)] : List Value).toArray below meth c 0 0 (MQ below (va_Qv (fun u' => u' = V) (fun u' t => va_P D vwCl (zS C a u') t.heap) A) ([.ref (a 0)] : List Value).toArray s 0 0 A) D (zk_Km A s) 4 (zS C a w9) 7 [(0, .ref (a 0)), (1, .int (nI i))] [] := by
    intro k
    induction k with
    | zero =>
      intro i w9 h1 hv
      rw [zl_X4_giveCards_lp] at hv
      refine zj_iload_n 8 X 1 dX4_giveCards_7 rfl rfl ?_
      refine zj_aload_n 9 X 0 dX4_giveCards_8 rfl rfl ?_
      refine zg_RX4_29 12 X dX4_giveCards_9 rfl ?_
      refine zn_S_deck 13 X dX4_giveCards_12 rfl ?_
      refine zj_icmp_ge 16 68 X dX4_giveCards_13 (by decide) rfl (fun _ => ?_) (fun c2 => absurd (zge0 (N := 32) (by rfl) (by omega)) c2)
      exact ze_vm (Wd := zS C a) (u := w9) X Y hv dX4_giveCards_68
    | succ k ih =>
      intro i w9 h1 hv
      rw [zl_X4_giveCards_lp] at hv
      refine zj_iload_n 8 X 1 dX4_giveCards_7 rfl rfl ?_
      refine zj_aload_n 9 X 0 dX4_giveCards_8 rfl rfl ?_
      refine zg_RX4_29 12 X dX4_giveCards_9 rfl ?_
      refine zn_S_deck 13 X dX4_giveCards_12 rfl ?_
      refine zj_icmp_ge 16 68 X dX4_giveCards_13 (by decide) rfl (fun c3 => absurd c3 (zge (N := 32) (by rfl) (by omega) (by decide))) (fun _ => ?_)
      refine zj_aload_n 17 X 0 dX4_giveCards_16 rfl rfl ?_
      refine zg_RX4_29 20 X dX4_giveCards_17 rfl ?_
      refine zj_iload_n 21 X 1 dX4_giveCards_20 rfl rfl ?_
      refine zl_S_deck 22 X (w := zuD w9 i) (by rw [nI_clamp (by omega)]) (vp_in_nI (by omega) (by omega)) dX4_giveCards_21 rfl ?_
      refine zc_l 25 (zr_SN (As := [.int (zuD w9 i)]) (rest := []) X (zc_X1_setOf (l := l) (p0 := zuD w9 i)) zw_X4_124 zn_X1_setOf (zcR_of rfl) zs0 rfl (Nat.le_of_ble_eq_true rfl) dX4_giveCards_22) rfl ?_
      refine zj_lstore_n 26 X (lv1 := [(0, .ref (a 0)), (1, .int (nI i)), (2, .long (zf_X1_setOf (zuD w9 i)))]) [1, 2, 0] dX4_giveCards_25 (by decide) rfl rfl ?_
      refine zj_iload_n 27 X 1 dX4_giveCards_26 rfl rfl ?_
      refine zj_bipush 29 X (v := 30) dX4_giveCards_27 (by decide) rfl ?_
      refine zj_icmp_ge 32 52 X dX4_giveCards_29 (by decide) rfl (fun c4 => ?_) (fun c4 => ?_)
      · rw [if_pos c4] at hv
        refine zj_aload_n 53 X 0 dX4_giveCards_52 rfl rfl ?_
        refine zj_dup 54 X dX4_giveCards_53 rfl rfl ?_
        refine zg_RX4_103 57 X (w := zuK w9) rfl dX4_giveCards_54 rfl ?_
        refine zj_lload_n 58 X 2 dX4_giveCards_57 rfl rfl ?_
        refine zj_lor 59 X dX4_giveCards_58 rfl ?_
        refine zp_RX4_103 62 X (zD_S _ hD) dX4_giveCards_59 rfl ?_
        refine zj_iinc 65 X (v := nI (i + 1)) (lv1 := [(0, .ref (a 0)), (1, .int (nI (i + 1))), (2, .long (zf_X1_setOf (zuD w9 i)))]) 1 [1, 0, 2] dX4_giveCards_62 rfl (zinc _) (by decide) rfl rfl ?_
        refine zj_goto 7 X dX4_giveCards_65 (by decide) ?_
        refine zj_lv (lv1 := [(0, .ref (a 0)), (1, .int (nI (i + 1)))]) [0, 1] rfl ?_
        exact ih (i + 1)  (zusK w9 ((zuK w9) ||| (zf_X1_setOf (zuD w9 i)))) (by omega)  hv
      · rw [if_neg c4] at hv
        refine zj_aload_n 33 X 0 dX4_giveCards_32 rfl rfl ?_
        refine zj_iload_n 34 X 1 dX4_giveCards_33 rfl rfl ?_
        refine zj_bipush 36 X (v := 10) dX4_giveCards_34 (by decide) rfl ?_
        refine zj_idiv 37 X dX4_giveCards_36 (by decide) rfl ?_
        refine zc_r 40 (ad := fun k => .ref (a (1 + k))) (zr_V (As := [.int ((nI i) / 10)]) (rest := []) X (zc_X4_seat (l := l) (p0 := (nI i) / 10) (u := w9)) zw_X4_107 zn_X4_seat (zcR_of rfl) zO_S0 zsI rfl (Nat.le_of_ble_eq_true rfl) dX4_giveCards_37) rfl ?_
        refine zj_dup 41 X dX4_giveCards_40 rfl rfl ?_
        refine zg_RX4_111 44 (zf_X4_seat w9 ((nI i) / 10)) (zseat_lt _ _) X (w := zuC w9 (zf_X4_seat w9 ((nI i) / 10))) rfl dX4_giveCards_41 rfl ?_
        refine zj_lload_n 45 X 2 dX4_giveCards_44 rfl rfl ?_
        refine zj_lor 46 X dX4_giveCards_45 rfl ?_
        refine zp_RX4_111 49 (zf_X4_seat w9 ((nI i) / 10)) (zseat_lt _ _) X (zD_S _ hD) dX4_giveCards_46 rfl ?_
        refine zj_goto 62 X dX4_giveCards_49 (by decide) ?_
        refine zj_iinc 65 X (v := nI (i + 1)) (lv1 := [(0, .ref (a 0)), (1, .int (nI (i + 1))), (2, .long (zf_X1_setOf (zuD w9 i)))]) 1 [1, 0, 2] dX4_giveCards_62 rfl (zinc _) (by decide) rfl rfl ?_
        refine zj_goto 7 X dX4_giveCards_65 (by decide) ?_
        refine zj_lv (lv1 := [(0, .ref (a 0)), (1, .int (nI (i + 1)))]) [0, 1] rfl ?_
        exact ih (i + 1)  (zuC1 w9 (zf_X4_seat w9 ((nI i) / 10)) ((zuC w9 (zf_X4_seat w9 ((nI i) / 10))) ||| (zf_X1_setOf (zuD w9 i)))) (by omega)  hv
  exact L1 32 0 (zusK u 0) (by decide)  hv
