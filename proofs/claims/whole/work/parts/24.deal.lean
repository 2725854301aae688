theorem zdn {k : Nat} (h : k < 1000) : ¬ nI (k + 1) < 1 := by
  have e : (1 : Int32) = nI 1 := by rfl
  rw [e]; exact nI_nlt (by omega) (by omega)
theorem zk2 {k : Nat} (hk : k < 31) : ((nI (k + 1)) + 1).toInt64 = lN (k + 2) := by
  rw [nI_1, nI_l (by omega)]
theorem zsh_ne {k : Nat} (hk : k < 31) : ¬ ((nI (k + 1)) + 1).toInt64 = 0 := by
  rw [zk2 hk, show (0 : Int64) = lN 0 from rfl, pk_lEQ (by omega) (by omega)]
  omega
theorem zl_and (x : Int64) : x &&& 2147483647 = lN (x.toBitVec.toNat % 2147483648) := by
  apply Int64.toBitVec_inj.mp
  apply BitVec.eq_of_toNat_eq
  rw [Int64.toBitVec_and, BitVec.toNat_and, show (2147483647 : Int64).toBitVec.toNat = 2 ^ 31 - 1 by decide, Nat.and_two_pow_sub_one_eq_mod]
  show _ = (BitVec.ofNat 64 _).toNat
  rw [BitVec.toNat_ofNat, Nat.mod_eq_of_lt (a := x.toBitVec.toNat % 2147483648) (by omega)]
theorem zl_idx {n k : Nat} (hn : n < 2147483648) (hk : k < 31) : (((lN n / 65536) - (lN n / 65536) / (((nI (k + 1)) + 1).toInt64) * (((nI (k + 1)) + 1).toInt64)).toInt32) = nI (n / 65536 % (k + 2)) := by
  rw [zk2 hk, show (65536 : Int64) = lN 65536 from rfl, pk_lDiv (by omega) (by omega) (by omega), pk_lRem (by omega) (by omega) (by omega), lN_i]
theorem zsh_in {x : Int64} {k : Nat} (hk : k < 31) : vp_in ((((x &&& 2147483647) / 65536) - ((x &&& 2147483647) / 65536) / (((nI (k + 1)) + 1).toInt64) * (((nI (k + 1)) + 1).toInt64)).toInt32) 32 := by
  rw [zl_and, zl_idx (by omega) hk]
  exact vp_in_nI (Nat.lt_of_lt_of_le (Nat.mod_lt _ (by omega)) (by omega)) (by omega)
def zl_X4_shuffle_mix (u : zU) (p0 : Int32) : Nat → Int64 → zU → zU
  | 0, x2, w9 => w9
  | k + 1, x2, w9 => zl_X4_shuffle_mix u p0 k (((x2 * 1103515245) + 12345) &&& 2147483647) (zuD1 (zuD1 w9 (k + 1) (zuD w9 (((((((x2 * 1103515245) + 12345) &&& 2147483647) / 65536) - ((((x2 * 1103515245) + 12345) &&& 2147483647) / 65536) / (((nI (k + 1)) + 1).toInt64) * (((nI (k + 1)) + 1).toInt64)).toInt32).toNatClampNeg))) (((((((x2 * 1103515245) + 12345) &&& 2147483647) / 65536) - ((((x2 * 1103515245) + 12345) &&& 2147483647) / 65536) / (((nI (k + 1)) + 1).toInt64) * (((nI (k + 1)) + 1).toInt64)).toInt32).toNatClampNeg) (zuD w9 (k + 1)))
def zl_X4_shuffle_fill (u : zU) (p0 : Int32) : Nat → Nat → zU → zU
  | 0, i, w9 => zl_X4_shuffle_mix u p0 31 p0.toInt64 w9
  | k + 1, i, w9 => zl_X4_shuffle_fill u p0 k (i + 1) (zuD1 w9 i (nI i))
def zf_X4_shuffle (u : zU) (p0 : Int32) : zU := zl_X4_shuffle_fill u p0 32 0 u
abbrev zR_X4_shuffle : Room := { frames := 0, cells := 0, slots := 0, locals := 0 }
set_option maxHeartbeats 4000000 in
set_option maxRecDepth 100000 in
theorem zc_X4_shuffle {l : Launch} {D : va_G} {C : ClassId × ClassId} {a : Nat → Nat} {u : zU} {p0 : Int32} : zk_Mm l yX4_shuffle cX4_shuffle 7 none zR_X4_shuffle [.ref (a 0), .int (p0)] (zS C a u) D C (fun A => va_Qv (fun u' => u' = zf_X4_shuffle u p0) (fun u' t => va_P D vwCl (zS C a u') t.heap) A) := by
  refine zk_mm (by decide) (Nat.le_of_ble_eq_true rfl) ?_
  intro p e s m below meth c A X Y hD hA
  generalize hv : zf_X4_shuffle u p0 = V
  unfold zf_X4_shuffle at hv
  show zJ _ _ _ _ _ _ _ _ _ _ _ _ _ _ _ _ _ 0 [(0, .ref (a 0)), (1, .int (p0))] []
  refine zj_iconst 1 X (v := 0) dX4_shuffle_0 (by decide) rfl ?_
  refine zj_istore_n 2 X (lv1 := [(0, .ref (a 0)), (1, .int (p0)), (2, .int (0))]) [1, 2, 0] dX4_shuffle_1 (by decide) rfl rfl ?_
  have L1 : ∀ (k i : Nat)  (w9 : zU), i + k = 32 → zl_X4_shuffle_fill u p0 k i w9 = V → zJ p l e zR_X4_shuffle s m ([.ref (a 0), .int (p0)] : List Value).toArray below meth c 0 0 (MQ below (va_Qv (fun u' => u' = V) (fun u' t => va_P D vwCl (zS C a u') t.heap) A) ([.ref (a 0), .int (p0)] : List Value).toArray s 0 0 A) D (zk_Km A s) 7 (zS C a w9) 2 [(0, .ref (a 0)), (1, .int (p0)), (2, .int (nI i))] [] := by
    intro k
    induction k with
    | zero =>
      intro i w9 h1 hv
      rw [zl_X4_shuffle_fill] at hv
      refine zj_iload_n 3 X 2 dX4_shuffle_2 rfl rfl ?_
      refine zj_bipush 5 X (v := 32) dX4_shuffle_3 (by decide) rfl ?_
      refine zj_icmp_ge 8 21 X dX4_shuffle_5 (by decide) rfl (fun _ => ?_) (fun c2 => absurd (zge0 (N := 32) (by rfl) (by omega)) c2)
      refine zj_iload_n 22 X 1 dX4_shuffle_21 rfl rfl ?_
      refine zj_i2l 23 X dX4_shuffle_22 rfl rfl ?_
      refine zj_lstore_n 24 X (lv1 := [(0, .ref (a 0)), (1, .int (p0)), (2, .long (p0.toInt64))]) [1, 2, 0] dX4_shuffle_23 (by decide) rfl rfl ?_
      refine zj_bipush 26 X (v := 31) dX4_shuffle_24 (by decide) rfl ?_
      refine zj_istore 28 X (lv1 := [(0, .ref (a 0)), (1, .int (p0)), (2, .long (p0.toInt64)), (4, .int (31))]) [1, 2, 3, 0] dX4_shuffle_26 (by decide) rfl rfl ?_
      have L3 : ∀ (k : Nat) (x2 : Int64) (w9 : zU), k ≤ 31 → zl_X4_shuffle_mix u p0 k x2 w9 = V → zJ p l e zR_X4_shuffle s m ([.ref (a 0), .int (p0)] : List Value).toArray below meth c 0 0 (MQ below (va_Qv (fun u' => u' = V) (fun u' t => va_P D vwCl (zS C a u') t.heap) A) ([.ref (a 0), .int (p0)] : List Value).toArray s 0 0 A) D (zk_Km A s) 7 (zS C a w9) 28 [(0, .ref (a 0)), (1, .int (p0)), (2, .long (x2)), (4, .int (nI k))] [] := by
        intro k
        induction k with
        | zero =>
          intro x2 w9 h1 hv
          rw [zl_X4_shuffle_mix] at hv
          refine zj_iload 30 X 3 dX4_shuffle_28 rfl rfl ?_
          refine zj_iconst 31 X (v := 1) dX4_shuffle_30 (by decide) rfl ?_
          refine zj_icmp_lt 34 100 X dX4_shuffle_31 (by decide) rfl (fun _ => ?_) (fun c4 => absurd (by decide) c4)
          exact ze_vm (Wd := zS C a) (u := w9) X Y hv dX4_shuffle_100
        | succ k ih =>
          intro x2 w9 h1 hv
          rw [zl_X4_shuffle_mix] at hv
          refine zj_iload 30 X 3 dX4_shuffle_28 rfl rfl ?_
          refine zj_iconst 31 X (v := 1) dX4_shuffle_30 (by decide) rfl ?_
          refine zj_icmp_lt 34 100 X dX4_shuffle_31 (by decide) rfl (fun c5 => absurd c5 (zdn (by omega))) (fun _ => ?_)
          refine zj_lload_n 35 X 2 dX4_shuffle_34 rfl rfl ?_
          refine zj_ldc2 38 X (v := 1103515245) (zG_t 79 (by decide +kernel) rfl) dX4_shuffle_35 rfl ?_
          refine zj_lmul 39 X dX4_shuffle_38 rfl ?_
          refine zj_ldc2 42 X (v := 12345) (zG_t 80 (by decide +kernel) rfl) dX4_shuffle_39 rfl ?_
          refine zj_ladd 43 X dX4_shuffle_42 rfl ?_
          refine zj_ldc2 46 X (v := 2147483647) (zG_t 81 (by decide +kernel) rfl) dX4_shuffle_43 rfl ?_
          refine zj_land 47 X dX4_shuffle_46 rfl ?_
          refine zj_lstore_n 48 X (lv1 := [(0, .ref (a 0)), (1, .int (p0)), (2, .long (((x2 * 1103515245) + 12345) &&& 2147483647)), (4, .int (nI (k + 1)))]) [1, 2, 0, 3] dX4_shuffle_47 (by decide) rfl rfl ?_
          refine zj_lload_n 49 X 2 dX4_shuffle_48 rfl rfl ?_
          refine zj_ldc2 52 X (v := 65536) (zG_t 82 (by decide +kernel) rfl) dX4_shuffle_49 rfl ?_
          refine zj_ldiv 53 X dX4_shuffle_52 (by decide) rfl ?_
          refine zj_iload 55 X 3 dX4_shuffle_53 rfl rfl ?_
          refine zj_iconst 56 X (v := 1) dX4_shuffle_55 (by decide) rfl ?_
          refine zj_iadd 57 X dX4_shuffle_56 rfl ?_
          refine zj_i2l 58 X dX4_shuffle_57 rfl rfl ?_
          refine zj_lrem 59 X dX4_shuffle_58 (zsh_ne (by omega)) rfl ?_
          refine zj_l2i 60 X dX4_shuffle_59 rfl rfl ?_
          refine zj_istore 62 X (lv1 := [(0, .ref (a 0)), (1, .int (p0)), (2, .long (((x2 * 1103515245) + 12345) &&& 2147483647)), (4, .int (nI (k + 1))), (5, .int ((((((x2 * 1103515245) + 12345) &&& 2147483647) / 65536) - ((((x2 * 1103515245) + 12345) &&& 2147483647) / 65536) / (((nI (k + 1)) + 1).toInt64) * (((nI (k + 1)) + 1).toInt64)).toInt32))]) [1, 2, 3, 4, 0] dX4_shuffle_60 (by decide) rfl rfl ?_
          refine zj_aload_n 63 X 0 dX4_shuffle_62 rfl rfl ?_
          refine zg_RX4_29 66 X dX4_shuffle_63 rfl ?_
          refine zj_iload 68 X 3 dX4_shuffle_66 rfl rfl ?_
          refine zl_S_deck 69 X (w := zuD w9 (k + 1)) (by rw [nI_clamp (by omega)]) (vp_in_nI (by omega) (by omega)) dX4_shuffle_68 rfl ?_
          refine zj_istore 71 X (lv1 := [(0, .ref (a 0)), (1, .int (p0)), (2, .long (((x2 * 1103515245) + 12345) &&& 2147483647)), (4, .int (nI (k + 1))), (5, .int ((((((x2 * 1103515245) + 12345) &&& 2147483647) / 65536) - ((((x2 * 1103515245) + 12345) &&& 2147483647) / 65536) / (((nI (k + 1)) + 1).toInt64) * (((nI (k + 1)) + 1).toInt64)).toInt32)), (6, .int (zuD w9 (k + 1)))]) [1, 2, 3, 4, 5, 0] dX4_shuffle_69 (by decide) rfl rfl ?_
          refine zj_aload_n 72 X 0 dX4_shuffle_71 rfl rfl ?_
          refine zg_RX4_29 75 X dX4_shuffle_72 rfl ?_
          refine zj_iload 77 X 3 dX4_shuffle_75 rfl rfl ?_
          refine zj_aload_n 78 X 0 dX4_shuffle_77 rfl rfl ?_
          refine zg_RX4_29 81 X dX4_shuffle_78 rfl ?_
          refine zj_iload 83 X 4 dX4_shuffle_81 rfl rfl ?_
          refine zl_S_deck 84 X (w := zuD w9 (((((((x2 * 1103515245) + 12345) &&& 2147483647) / 65536) - ((((x2 * 1103515245) + 12345) &&& 2147483647) / 65536) / (((nI (k + 1)) + 1).toInt64) * (((nI (k + 1)) + 1).toInt64)).toInt32).toNatClampNeg)) rfl (zsh_in (by omega)) dX4_shuffle_83 rfl ?_
          refine zt_S_deck 85 X (zD_S _ hD) (vp_in_nI (by omega) (by omega)) dX4_shuffle_84 rfl ?_
          rw [nI_clamp (by omega : (k + 1) < 2147483648)]
          refine zj_aload_n 86 X 0 dX4_shuffle_85 rfl rfl ?_
          refine zg_RX4_29 89 X dX4_shuffle_86 rfl ?_
          refine zj_iload 91 X 4 dX4_shuffle_89 rfl rfl ?_
          refine zj_iload 93 X 5 dX4_shuffle_91 rfl rfl ?_
          refine zt_S_deck 94 X (zD_S _ hD) (zsh_in (by omega)) dX4_shuffle_93 rfl ?_
          refine zj_iinc 97 X (v := nI k) (lv1 := [(0, .ref (a 0)), (1, .int (p0)), (2, .long (((x2 * 1103515245) + 12345) &&& 2147483647)), (4, .int (nI k)), (5, .int ((((((x2 * 1103515245) + 12345) &&& 2147483647) / 65536) - ((((x2 * 1103515245) + 12345) &&& 2147483647) / 65536) / (((nI (k + 1)) + 1).toInt64) * (((nI (k + 1)) + 1).toInt64)).toInt32)), (6, .int (zuD w9 (k + 1)))]) 3 [1, 2, 3, 0, 4, 5] dX4_shuffle_94 rfl (zdec _) (by decide) rfl rfl ?_
          refine zj_goto 28 X dX4_shuffle_97 (by decide) ?_
          refine zj_lv (lv1 := [(0, .ref (a 0)), (1, .int (p0)), (2, .long (((x2 * 1103515245) + 12345) &&& 2147483647)), (4, .int (nI k))]) [0, 1, 2, 3] rfl ?_
          exact ih (((x2 * 1103515245) + 12345) &&& 2147483647) (zuD1 (zuD1 w9 (k + 1) (zuD w9 (((((((x2 * 1103515245) + 12345) &&& 2147483647) / 65536) - ((((x2 * 1103515245) + 12345) &&& 2147483647) / 65536) / (((nI (k + 1)) + 1).toInt64) * (((nI (k + 1)) + 1).toInt64)).toInt32).toNatClampNeg))) (((((((x2 * 1103515245) + 12345) &&& 2147483647) / 65536) - ((((x2 * 1103515245) + 12345) &&& 2147483647) / 65536) / (((nI (k + 1)) + 1).toInt64) * (((nI (k + 1)) + 1).toInt64)).toInt32).toNatClampNeg) (zuD w9 (k + 1))) (by omega)  hv
      exact L3 31 p0.toInt64 w9 (by decide)  hv
    | succ k ih =>
      intro i w9 h1 hv
      rw [zl_X4_shuffle_fill] at hv
      refine zj_iload_n 3 X 2 dX4_shuffle_2 rfl rfl ?_
      refine zj_bipush 5 X (v := 32) dX4_shuffle_3 (by decide) rfl ?_
      refine zj_icmp_ge 8 21 X dX4_shuffle_5 (by decide) rfl (fun c6 => absurd c6 (zge (N := 32) (by rfl) (by omega) (by decide))) (fun _ => ?_)
      refine zj_aload_n 9 X 0 dX4_shuffle_8 rfl rfl ?_
      refine zg_RX4_29 12 X dX4_shuffle_9 rfl ?_
      refine zj_iload_n 13 X 2 dX4_shuffle_12 rfl rfl ?_
      refine zj_iload_n 14 X 2 dX4_shuffle_13 rfl rfl ?_
      refine zt_S_deck 15 X (zD_S _ hD) (vp_in_nI (by omega) (by omega)) dX4_shuffle_14 rfl ?_
      rw [nI_clamp (by omega : i < 2147483648)]
      refine zj_iinc 18 X (v := nI (i + 1)) (lv1 := [(0, .ref (a 0)), (1, .int (p0)), (2, .int (nI (i + 1)))]) 2 [1, 2, 0] dX4_shuffle_15 rfl (zinc _) (by decide) rfl rfl ?_
      refine zj_goto 2 X dX4_shuffle_18 (by decide) ?_
      exact ih (i + 1)  (zuD1 w9 i (nI i)) (by omega)  hv
  exact L1 32 0 u (by decide)  hv
def zl_X4_giveCards_lp (u : zU) : Nat → Nat → zU → zU
  | 0, i, w9 => w9
  | k + 1, i, w9 => if 30 ≤ (nI i) then zl_X4_giveCards_lp u k (i + 1) (zusK w9 ((zuK w9) ||| (zf_X1_setOf (zuD w9 i)))) else zl_X4_giveCards_lp u k (i + 1) (zuC1 w9 (zf_X4_seat w9 ((nI i) / 10)) ((zuC w9 (zf_X4_seat w9 ((nI i) / 10))) ||| (zf_X1_setOf (zuD w9 i))))
def zf_X4_giveCards (u : zU) : zU := zl_X4_giveCards_lp u 32 0 (zusK u 0)
abbrev zR_X4_giveCards : Room := { frames := 1, cells := 0, slots := 0, locals := 21 }
set_option maxHeartbeats 4000000 in
set_option maxRecDepth 100000 in
theorem zc_X4_giveCards {l : Launch} {D : va_G} {C : ClassId × ClassId} {a : Nat → Nat} {u : zU} : zk_Mm l yX4_giveCards cX4_giveCards 4 none zR_X4_giveCards [.ref (a 0)] (zS C a u) D C (fun A => va_Qv (fun u' => u' = zf_X4_giveCards u) (fun u' t => va_P D vwCl (zS C a u') t.heap) A) := by
  refine zk_mm (by decide) (Nat.le_of_ble_eq_true rfl) ?_
  intro p e s m below meth c A X Y hD hA
  generalize hv : zf_X4_giveCards u = V
  unfold zf_X4_giveCards at hv
  show zJ _ _ _ _ _ _ _ _ _ _ _ _ _ _ _ _ _ 0 [(0, .ref (a 0))] []
  refine zj_aload_n 1 X 0 dX4_giveCards_0 rfl rfl ?_
  refine zj_lconst 2 X (v := 0) dX4_giveCards_1 (by decide) rfl ?_
  refine zp_RX4_103 5 X (zD_S _ hD) dX4_giveCards_2 rfl ?_
  refine zj_iconst 6 X (v := 0) dX4_giveCards_5 (by decide) rfl ?_
  refine zj_istore_n 7 X (lv1 := [(0, .ref (a 0)), (1, .int (0))]) [1, 0] dX4_giveCards_6 (by decide) rfl rfl ?_
  have L1 : ∀ (k i : Nat)  (w9 : zU), i + k = 32 → zl_X4_giveCards_lp u k i w9 = V → zJ p l e zR_X4_giveCards s m ([.ref (a 0)] : List Value).toArray below meth c 0 0 (MQ below (va_Qv (fun u' => u' = V) (fun u' t => va_P D vwCl (zS C a u') t.heap) A) ([.ref (a 0)] : List Value).toArray s 0 0 A) D (zk_Km A s) 4 (zS C a w9) 7 [(0, .ref (a 0)), (1, .int (nI i))] [] := by
    intro k
    induction k with
    | zero =>
      intro i w9 h1 hv
      rw [zl_X4_giveCards_lp] at hv
      refine zj_iload_n 8 X 1 dX4_giveCards_7 rfl rfl ?_
      refine zj_bipush 10 X (v := 32) dX4_giveCards_8 (by decide) rfl ?_
      refine zj_icmp_ge 13 65 X dX4_giveCards_10 (by decide) rfl (fun _ => ?_) (fun c2 => absurd (zge0 (N := 32) (by rfl) (by omega)) c2)
      exact ze_vm (Wd := zS C a) (u := w9) X Y hv dX4_giveCards_65
    | succ k ih =>
      intro i w9 h1 hv
      rw [zl_X4_giveCards_lp] at hv
      refine zj_iload_n 8 X 1 dX4_giveCards_7 rfl rfl ?_
      refine zj_bipush 10 X (v := 32) dX4_giveCards_8 (by decide) rfl ?_
      refine zj_icmp_ge 13 65 X dX4_giveCards_10 (by decide) rfl (fun c3 => absurd c3 (zge (N := 32) (by rfl) (by omega) (by decide))) (fun _ => ?_)
      refine zj_aload_n 14 X 0 dX4_giveCards_13 rfl rfl ?_
      refine zg_RX4_29 17 X dX4_giveCards_14 rfl ?_
      refine zj_iload_n 18 X 1 dX4_giveCards_17 rfl rfl ?_
      refine zl_S_deck 19 X (w := zuD w9 i) (by rw [nI_clamp (by omega)]) (vp_in_nI (by omega) (by omega)) dX4_giveCards_18 rfl ?_
      refine zc_l 22 (zr_SN (As := [.int (zuD w9 i)]) (rest := []) X (zc_X1_setOf (l := l) (p0 := zuD w9 i)) zw_X4_124 zn_X1_setOf (zcR_of rfl) zs0 rfl (Nat.le_of_ble_eq_true rfl) dX4_giveCards_19) rfl ?_
      refine zj_lstore_n 23 X (lv1 := [(0, .ref (a 0)), (1, .int (nI i)), (2, .long (zf_X1_setOf (zuD w9 i)))]) [1, 2, 0] dX4_giveCards_22 (by decide) rfl rfl ?_
      refine zj_iload_n 24 X 1 dX4_giveCards_23 rfl rfl ?_
      refine zj_bipush 26 X (v := 30) dX4_giveCards_24 (by decide) rfl ?_
      refine zj_icmp_ge 29 49 X dX4_giveCards_26 (by decide) rfl (fun c4 => ?_) (fun c4 => ?_)
      · rw [if_pos c4] at hv
        refine zj_aload_n 50 X 0 dX4_giveCards_49 rfl rfl ?_
        refine zj_dup 51 X dX4_giveCards_50 rfl rfl ?_
        refine zg_RX4_103 54 X (w := zuK w9) rfl dX4_giveCards_51 rfl ?_
        refine zj_lload_n 55 X 2 dX4_giveCards_54 rfl rfl ?_
        refine zj_lor 56 X dX4_giveCards_55 rfl ?_
        refine zp_RX4_103 59 X (zD_S _ hD) dX4_giveCards_56 rfl ?_
        refine zj_iinc 62 X (v := nI (i + 1)) (lv1 := [(0, .ref (a 0)), (1, .int (nI (i + 1))), (2, .long (zf_X1_setOf (zuD w9 i)))]) 1 [1, 0, 2] dX4_giveCards_59 rfl (zinc _) (by decide) rfl rfl ?_
        refine zj_goto 7 X dX4_giveCards_62 (by decide) ?_
        refine zj_lv (lv1 := [(0, .ref (a 0)), (1, .int (nI (i + 1)))]) [0, 1] rfl ?_
        exact ih (i + 1)  (zusK w9 ((zuK w9) ||| (zf_X1_setOf (zuD w9 i)))) (by omega)  hv
      · rw [if_neg c4] at hv
        refine zj_aload_n 30 X 0 dX4_giveCards_29 rfl rfl ?_
        refine zj_iload_n 31 X 1 dX4_giveCards_30 rfl rfl ?_
        refine zj_bipush 33 X (v := 10) dX4_giveCards_31 (by decide) rfl ?_
        refine zj_idiv 34 X dX4_giveCards_33 (by decide) rfl ?_
        refine zc_r 37 (ad := fun k => .ref (a (1 + k))) (zr_V (As := [.int ((nI i) / 10)]) (rest := []) X (zc_X4_seat (l := l) (p0 := (nI i) / 10) (u := w9)) zw_X4_107 zn_X4_seat (zcR_of rfl) zO_S0 zsI rfl (Nat.le_of_ble_eq_true rfl) dX4_giveCards_34) rfl ?_
        refine zj_dup 38 X dX4_giveCards_37 rfl rfl ?_
        refine zg_RX4_111 41 (zf_X4_seat w9 ((nI i) / 10)) (zseat_lt _ _) X (w := zuC w9 (zf_X4_seat w9 ((nI i) / 10))) rfl dX4_giveCards_38 rfl ?_
        refine zj_lload_n 42 X 2 dX4_giveCards_41 rfl rfl ?_
        refine zj_lor 43 X dX4_giveCards_42 rfl ?_
        refine zp_RX4_111 46 (zf_X4_seat w9 ((nI i) / 10)) (zseat_lt _ _) X (zD_S _ hD) dX4_giveCards_43 rfl ?_
        refine zj_goto 59 X dX4_giveCards_46 (by decide) ?_
        refine zj_iinc 62 X (v := nI (i + 1)) (lv1 := [(0, .ref (a 0)), (1, .int (nI (i + 1))), (2, .long (zf_X1_setOf (zuD w9 i)))]) 1 [1, 0, 2] dX4_giveCards_59 rfl (zinc _) (by decide) rfl rfl ?_
        refine zj_goto 7 X dX4_giveCards_62 (by decide) ?_
        refine zj_lv (lv1 := [(0, .ref (a 0)), (1, .int (nI (i + 1)))]) [0, 1] rfl ?_
        exact ih (i + 1)  (zuC1 w9 (zf_X4_seat w9 ((nI i) / 10)) ((zuC w9 (zf_X4_seat w9 ((nI i) / 10))) ||| (zf_X1_setOf (zuD w9 i)))) (by omega)  hv
  exact L1 32 0 (zusK u 0) (by decide)  hv
def zf_X4_startDeal (u : zU) (p0 : Int32) : zU := (zf_X4_startBidding (zuI1 (zuI1 (zuI1 (zuI1 (zuI1 (zf_X4_giveCards (zf_X4_shuffle (zf_X3_clear (zf_X2_startDeal (zf_X2_startDeal (zf_X2_startDeal u 0) 1) 2)) p0)) 10 0) 11 (-1)) 12 (-1)) 13 0) 14 0) (zf_X4_playerAfter (zuI (zf_X4_giveCards (zf_X4_shuffle (zf_X3_clear (zf_X2_startDeal (zf_X2_startDeal (zf_X2_startDeal u 0) 1) 2)) p0)) 5)) (zuI (zf_X4_giveCards (zf_X4_shuffle (zf_X3_clear (zf_X2_startDeal (zf_X2_startDeal (zf_X2_startDeal u 0) 1) 2)) p0)) 5))
abbrev zR_X4_startDeal : Room := { frames := 2, cells := 0, slots := 0, locals := 44 }
set_option maxHeartbeats 4000000 in
set_option maxRecDepth 100000 in
theorem zc_X4_startDeal {l : Launch} {D : va_G} {C : ClassId × ClassId} {a : Nat → Nat} {u : zU} {p0 : Int32} : zk_Mm l yX4_startDeal cX4_startDeal 2 none zR_X4_startDeal [.ref (a 0), .int (p0)] (zS C a u) D C (fun A => va_Qv (fun u' => u' = zf_X4_startDeal u p0) (fun u' t => va_P D vwCl (zS C a u') t.heap) A) := by
  refine zk_mm (by decide) (Nat.le_of_ble_eq_true rfl) ?_
  intro p e s m below meth c A X Y hD hA
  generalize hv : zf_X4_startDeal u p0 = V
  unfold zf_X4_startDeal at hv
  show zJ _ _ _ _ _ _ _ _ _ _ _ _ _ _ _ _ _ 0 [(0, .ref (a 0)), (1, .int (p0))] []
  refine zj_aload_n 1 X 0 dX4_startDeal_0 rfl rfl ?_
  refine zg_RX4_10 4 X dX4_startDeal_1 rfl ?_
  refine zc_vm 7 (Wd := zS C a) (zr_VNm (As := []) (rest := []) X (zc_X2_startDeal (l := l) (j := 0) (u := u) (hj := (by decide))) zw_X4_234 zn_X2_startDeal (zcR_of rfl) (zO_T (j := 0) (by decide)) (zD_S _ hD) hA rfl (Nat.le_of_ble_eq_true rfl) dX4_startDeal_4) (zD_S _ hD) hA rfl ?_
  refine zj_aload_n 8 X 0 dX4_startDeal_7 rfl rfl ?_
  refine zg_RX4_16 11 X dX4_startDeal_8 rfl ?_
  refine zc_vm 14 (Wd := zS C a) (zr_VNm (As := []) (rest := []) X (zc_X2_startDeal (l := l) (j := 1) (u := (zf_X2_startDeal u 0)) (hj := (by decide))) zw_X4_234 zn_X2_startDeal (zcR_of rfl) (zO_T (j := 1) (by decide)) (zD_S _ hD) hA rfl (Nat.le_of_ble_eq_true rfl) dX4_startDeal_11) (zD_S _ hD) hA rfl ?_
  refine zj_aload_n 15 X 0 dX4_startDeal_14 rfl rfl ?_
  refine zg_RX4_19 18 X dX4_startDeal_15 rfl ?_
  refine zc_vm 21 (Wd := zS C a) (zr_VNm (As := []) (rest := []) X (zc_X2_startDeal (l := l) (j := 2) (u := (zf_X2_startDeal (zf_X2_startDeal u 0) 1)) (hj := (by decide))) zw_X4_234 zn_X2_startDeal (zcR_of rfl) (zO_T (j := 2) (by decide)) (zD_S _ hD) hA rfl (Nat.le_of_ble_eq_true rfl) dX4_startDeal_18) (zD_S _ hD) hA rfl ?_
  refine zj_aload_n 22 X 0 dX4_startDeal_21 rfl rfl ?_
  refine zg_RX4_25 25 X dX4_startDeal_22 rfl ?_
  refine zc_vm 28 (Wd := zS C a) (zr_VNm (As := []) (rest := []) X (zc_X3_clear (l := l) (u := (zf_X2_startDeal (zf_X2_startDeal (zf_X2_startDeal u 0) 1) 2))) zw_X4_201 zn_X3_clear (zcR_of rfl) zO_S4 (zD_S _ hD) hA rfl (Nat.le_of_ble_eq_true rfl) dX4_startDeal_25) (zD_S _ hD) hA rfl ?_
  refine zj_aload_n 29 X 0 dX4_startDeal_28 rfl rfl ?_
  refine zj_iload_n 30 X 1 dX4_startDeal_29 rfl rfl ?_
  refine zc_vm 33 (Wd := zS C a) (zr_Vm (As := [.int (p0)]) (rest := []) X (zc_X4_shuffle (l := l) (p0 := p0) (u := (zf_X3_clear (zf_X2_startDeal (zf_X2_startDeal (zf_X2_startDeal u 0) 1) 2)))) zw_X4_236 zn_X4_shuffle (zcR_of rfl) zO_S0 (zD_S _ hD) hA rfl (Nat.le_of_ble_eq_true rfl) dX4_startDeal_30) (zD_S _ hD) hA rfl ?_
  refine zj_aload_n 34 X 0 dX4_startDeal_33 rfl rfl ?_
  refine zc_vm 37 (Wd := zS C a) (zr_Vm (As := []) (rest := []) X (zc_X4_giveCards (l := l) (u := (zf_X4_shuffle (zf_X3_clear (zf_X2_startDeal (zf_X2_startDeal (zf_X2_startDeal u 0) 1) 2)) p0))) zw_X4_239 zn_X4_giveCards (zcR_of rfl) zO_S0 (zD_S _ hD) hA rfl (Nat.le_of_ble_eq_true rfl) dX4_startDeal_34) (zD_S _ hD) hA rfl ?_
  refine zj_aload_n 38 X 0 dX4_startDeal_37 rfl rfl ?_
  refine zj_iconst 39 X (v := 0) dX4_startDeal_38 (by decide) rfl ?_
  refine zp_RX4_66 42 X (zD_S _ hD) dX4_startDeal_39 rfl ?_
  refine zj_aload_n 43 X 0 dX4_startDeal_42 rfl rfl ?_
  refine zj_iconst 44 X (v := (-1)) dX4_startDeal_43 (by decide) rfl ?_
  refine zp_RX4_98 47 X (zD_S _ hD) dX4_startDeal_44 rfl ?_
  refine zj_aload_n 48 X 0 dX4_startDeal_47 rfl rfl ?_
  refine zj_iconst 49 X (v := (-1)) dX4_startDeal_48 (by decide) rfl ?_
  refine zp_RX4_158 52 X (zD_S _ hD) dX4_startDeal_49 rfl ?_
  refine zj_aload_n 53 X 0 dX4_startDeal_52 rfl rfl ?_
  refine zj_iconst 54 X (v := 0) dX4_startDeal_53 (by decide) rfl ?_
  refine zp_RX4_148 57 X (zD_S _ hD) dX4_startDeal_54 rfl ?_
  refine zj_aload_n 58 X 0 dX4_startDeal_57 rfl rfl ?_
  refine zj_iconst 59 X (v := 0) dX4_startDeal_58 (by decide) rfl ?_
  refine zp_RX4_151 62 X (zD_S _ hD) (by decide) dX4_startDeal_59 rfl ?_
  refine zj_aload_n 63 X 0 dX4_startDeal_62 rfl rfl ?_
  refine zj_aload_n 64 X 0 dX4_startDeal_63 rfl rfl ?_
  refine zg_RX4_33 67 X (w := zuI (zf_X4_giveCards (zf_X4_shuffle (zf_X3_clear (zf_X2_startDeal (zf_X2_startDeal (zf_X2_startDeal u 0) 1) 2)) p0)) 5) rfl dX4_startDeal_64 rfl ?_
  refine zc_i 70 (zr_S (As := [.int (zuI (zf_X4_giveCards (zf_X4_shuffle (zf_X3_clear (zf_X2_startDeal (zf_X2_startDeal (zf_X2_startDeal u 0) 1) 2)) p0)) 5)]) (rest := [.ref (a 0)]) X (zc_X4_playerAfter (l := l) (p0 := zuI (zf_X4_giveCards (zf_X4_shuffle (zf_X3_clear (zf_X2_startDeal (zf_X2_startDeal (zf_X2_startDeal u 0) 1) 2)) p0)) 5)) zw_X4_48 zn_X4_playerAfter (zcR_of rfl) zs0 rfl (Nat.le_of_ble_eq_true rfl) dX4_startDeal_67) rfl ?_
  refine zj_aload_n 71 X 0 dX4_startDeal_70 rfl rfl ?_
  refine zg_RX4_33 74 X (w := zuI (zf_X4_giveCards (zf_X4_shuffle (zf_X3_clear (zf_X2_startDeal (zf_X2_startDeal (zf_X2_startDeal u 0) 1) 2)) p0)) 5) rfl dX4_startDeal_71 rfl ?_
  refine zc_vm 77 (Wd := zS C a) (zr_Vm (As := [.int (zf_X4_playerAfter (zuI (zf_X4_giveCards (zf_X4_shuffle (zf_X3_clear (zf_X2_startDeal (zf_X2_startDeal (zf_X2_startDeal u 0) 1) 2)) p0)) 5)), .int (zuI (zf_X4_giveCards (zf_X4_shuffle (zf_X3_clear (zf_X2_startDeal (zf_X2_startDeal (zf_X2_startDeal u 0) 1) 2)) p0)) 5)]) (rest := []) X (zc_X4_startBidding (l := l) (p0 := zf_X4_playerAfter (zuI (zf_X4_giveCards (zf_X4_shuffle (zf_X3_clear (zf_X2_startDeal (zf_X2_startDeal (zf_X2_startDeal u 0) 1) 2)) p0)) 5)) (p1 := zuI (zf_X4_giveCards (zf_X4_shuffle (zf_X3_clear (zf_X2_startDeal (zf_X2_startDeal (zf_X2_startDeal u 0) 1) 2)) p0)) 5) (u := zuI1 (zuI1 (zuI1 (zuI1 (zuI1 (zf_X4_giveCards (zf_X4_shuffle (zf_X3_clear (zf_X2_startDeal (zf_X2_startDeal (zf_X2_startDeal u 0) 1) 2)) p0)) 10 0) 11 (-1)) 12 (-1)) 13 0) 14 0)) zw_X4_242 zn_X4_startBidding (zcR_of rfl) zO_S0 (zD_S _ hD) hA rfl (Nat.le_of_ble_eq_true rfl) dX4_startDeal_74) (zD_S _ hD) hA rfl ?_
  exact ze_vm (Wd := zS C a) (u := (zf_X4_startBidding (zuI1 (zuI1 (zuI1 (zuI1 (zuI1 (zf_X4_giveCards (zf_X4_shuffle (zf_X3_clear (zf_X2_startDeal (zf_X2_startDeal (zf_X2_startDeal u 0) 1) 2)) p0)) 10 0) 11 (-1)) 12 (-1)) 13 0) 14 0) (zf_X4_playerAfter (zuI (zf_X4_giveCards (zf_X4_shuffle (zf_X3_clear (zf_X2_startDeal (zf_X2_startDeal (zf_X2_startDeal u 0) 1) 2)) p0)) 5)) (zuI (zf_X4_giveCards (zf_X4_shuffle (zf_X3_clear (zf_X2_startDeal (zf_X2_startDeal (zf_X2_startDeal u 0) 1) 2)) p0)) 5))) X Y hv dX4_startDeal_77
