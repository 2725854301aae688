theorem zmod3_in {x y : Int32} (hx : vp_in x 3) (hy : vp_in y 3) : vp_in ((x + y) - (x + y) / 3 * 3) 3 := by
  obtain ⟨a, ha, rfl⟩ := vp_in_of hx (by omega)
  obtain ⟨b, hb, rfl⟩ := vp_in_of hy (by omega)
  rw [nI_add, show (3 : Int32) = nI 3 from rfl, pk_rem (by omega) (by omega) (by omega)]
  exact vp_in_nI (Nat.mod_lt _ (by omega)) (by omega)
def zs_ok (s : Int64) : Prop := ∃ n : Nat, n < 2147483648 ∧ s = lN n
theorem zs_start {x : Int32} (h : 0 ≤ x.toInt) : zs_ok x.toInt64 := by
  have h0 : ¬ x < 0 := fun h1 => by
    rw [Int32.lt_iff_toInt_lt] at h1
    have : (0 : Int32).toInt = 0 := rfl
    omega
  obtain ⟨j, hj, rfl⟩ := nI_of h0
  exact ⟨j, hj, nI_l hj⟩
theorem zs_stepN {n : Nat} (hn : n < 2147483648) : (((lN n * 1103515245) + 12345) - ((lN n * 1103515245) + 12345) / 2147483648 * 2147483648) = lN ((n * 1103515245 + 12345) % 2147483648) := by
  rw [show (1103515245 : Int64) = lN 1103515245 from rfl, show (12345 : Int64) = lN 12345 from rfl, show (2147483648 : Int64) = lN 2147483648 from rfl, lN_mul, lN_add, pk_lRem (by omega) (by omega) (by omega)]
theorem zs_step {s : Int64} (h : zs_ok s) : zs_ok ((((s * 1103515245) + 12345) - ((s * 1103515245) + 12345) / 2147483648 * 2147483648)) := by
  obtain ⟨n, hn, rfl⟩ := h
  exact ⟨_, Nat.mod_lt _ (by omega), zs_stepN hn⟩
theorem zsm_in {s : Int64} (h : zs_ok s) {k : Nat} (hk : k < 31) : vp_in ((((((s * 1103515245) + 12345) - ((s * 1103515245) + 12345) / 2147483648 * 2147483648) / 65536) - ((((s * 1103515245) + 12345) - ((s * 1103515245) + 12345) / 2147483648 * 2147483648) / 65536) / (((nI (k + 1)) + 1).toInt64) * (((nI (k + 1)) + 1).toInt64)).toInt32) 32 := by
  obtain ⟨n, hn, e⟩ := zs_step h
  rw [e, zl_idx hn hk]
  exact vp_in_nI (Nat.lt_of_lt_of_le (Nat.mod_lt _ (by omega)) (by omega)) (by omega)
theorem zs_nn {x : Int32} (h : 0 ≤ x) : 0 ≤ x.toInt := by
  rw [Int32.le_iff_toInt_le] at h; exact h
def zf_X5_most (v : zN) : Int32 := if (zmP v 2) ≤ (if (zmP v 1) ≤ (zmP v 0) then zmP v 0 else zmP v 1) then if (zmP v 1) ≤ (zmP v 0) then zmP v 0 else zmP v 1 else zmP v 2
abbrev zR_X5_most : Room := { frames := 0, cells := 0, slots := 0, locals := 0 }
set_option maxHeartbeats 4000000 in
set_option maxRecDepth 100000 in
theorem zc_X5_most {l : Launch} {D : va_G} {C : ClassId × ClassId} {a : Nat → Nat} {v : zN} : zk_Mp l yX5_most cX5_most 3 (some .int) zR_X5_most [.ref (a 0)] (zM C a v) D C (vp_Si (fun r => r = zf_X5_most v)) := by
  refine zk_mp (by decide) (Nat.le_of_ble_eq_true rfl) ?_
  intro p e s m below meth c X Y
  generalize hv : zf_X5_most v = V
  unfold zf_X5_most at hv
  show zJ _ _ _ _ _ _ _ _ _ _ _ _ _ _ _ _ _ 0 [(0, .ref (a 0))] []
  refine zj_aload_n 1 X 0 dX5_most_0 rfl rfl ?_
  refine zg_RX5_23 4 X dX5_most_1 rfl ?_
  refine zj_iconst 5 X (v := 0) dX5_most_4 (by decide) rfl ?_
  refine zl_M_points 6 X (w := zmP v 0) rfl (vp_in_iff.mpr (by decide)) dX5_most_5 rfl ?_
  refine zj_istore_n 7 X (lv1 := [(0, .ref (a 0)), (1, .int (zmP v 0))]) [1, 0] dX5_most_6 (by decide) rfl rfl ?_
  refine zj_iconst 8 X (v := 1) dX5_most_7 (by decide) rfl ?_
  refine zj_istore_n 9 X (lv1 := [(0, .ref (a 0)), (1, .int (zmP v 0)), (2, .int (1))]) [1, 2, 0] dX5_most_8 (by decide) rfl rfl ?_
  refine zj_iload_n 10 X 2 dX5_most_9 rfl rfl ?_
  refine zj_iconst 11 X (v := 3) dX5_most_10 (by decide) rfl ?_
  refine zj_icmp_ge 14 41 X dX5_most_11 (by decide) rfl (fun c1 => absurd c1 (by decide)) (fun _ => ?_)
  refine zj_aload_n 15 X 0 dX5_most_14 rfl rfl ?_
  refine zg_RX5_23 18 X dX5_most_15 rfl ?_
  refine zj_iload_n 19 X 2 dX5_most_18 rfl rfl ?_
  refine zl_M_points 20 X (w := zmP v 1) rfl (vp_in_iff.mpr (by decide)) dX5_most_19 rfl ?_
  refine zj_iload_n 21 X 1 dX5_most_20 rfl rfl ?_
  refine zj_join 34 [(0, .ref (a 0)), (1, .int (zmP v 0)), (2, .int (1))] [.int (if (zmP v 1) ≤ (zmP v 0) then zmP v 0 else zmP v 1)] ?_ (fun J3 => ?_)
  · refine zj_istore_n 35 X (lv1 := [(0, .ref (a 0)), (1, .int (if (zmP v 1) ≤ (zmP v 0) then zmP v 0 else zmP v 1)), (2, .int (1))]) [1, 0, 2] dX5_most_34 (by decide) rfl rfl ?_
    refine zj_iinc 38 X (v := 2) (lv1 := [(0, .ref (a 0)), (1, .int (if (zmP v 1) ≤ (zmP v 0) then zmP v 0 else zmP v 1)), (2, .int (2))]) 2 [1, 2, 0] dX5_most_35 rfl (by decide) (by decide) rfl rfl ?_
    refine zj_goto 9 X dX5_most_38 (by decide) ?_
    refine zj_iload_n 10 X 2 dX5_most_9 rfl rfl ?_
    refine zj_iconst 11 X (v := 3) dX5_most_10 (by decide) rfl ?_
    refine zj_icmp_ge 14 41 X dX5_most_11 (by decide) rfl (fun c4 => absurd c4 (by decide)) (fun _ => ?_)
    refine zj_aload_n 15 X 0 dX5_most_14 rfl rfl ?_
    refine zg_RX5_23 18 X dX5_most_15 rfl ?_
    refine zj_iload_n 19 X 2 dX5_most_18 rfl rfl ?_
    refine zl_M_points 20 X (w := zmP v 2) rfl (vp_in_iff.mpr (by decide)) dX5_most_19 rfl ?_
    refine zj_iload_n 21 X 1 dX5_most_20 rfl rfl ?_
    refine zj_join 34 [(0, .ref (a 0)), (1, .int (if (zmP v 1) ≤ (zmP v 0) then zmP v 0 else zmP v 1)), (2, .int (2))] [.int (if (zmP v 2) ≤ (if (zmP v 1) ≤ (zmP v 0) then zmP v 0 else zmP v 1) then if (zmP v 1) ≤ (zmP v 0) then zmP v 0 else zmP v 1 else zmP v 2)] ?_ (fun J6 => ?_)
    · refine zj_istore_n 35 X (lv1 := [(0, .ref (a 0)), (1, .int (if (zmP v 2) ≤ (if (zmP v 1) ≤ (zmP v 0) then zmP v 0 else zmP v 1) then if (zmP v 1) ≤ (zmP v 0) then zmP v 0 else zmP v 1 else zmP v 2)), (2, .int (2))]) [1, 0, 2] dX5_most_34 (by decide) rfl rfl ?_
      refine zj_iinc 38 X (v := 3) (lv1 := [(0, .ref (a 0)), (1, .int (if (zmP v 2) ≤ (if (zmP v 1) ≤ (zmP v 0) then zmP v 0 else zmP v 1) then if (zmP v 1) ≤ (zmP v 0) then zmP v 0 else zmP v 1 else zmP v 2)), (2, .int (3))]) 2 [1, 2, 0] dX5_most_35 rfl (by decide) (by decide) rfl rfl ?_
      refine zj_goto 9 X dX5_most_38 (by decide) ?_
      refine zj_iload_n 10 X 2 dX5_most_9 rfl rfl ?_
      refine zj_iconst 11 X (v := 3) dX5_most_10 (by decide) rfl ?_
      refine zj_icmp_ge 14 41 X dX5_most_11 (by decide) rfl (fun _ => ?_) (fun c7 => absurd c7 (by decide))
      refine zj_iload_n 42 X 1 dX5_most_41 rfl rfl ?_
      exact ze_i X Y hv dX5_most_42
    · refine zj_icmp_le 24 33 X dX5_most_21 (by decide) rfl (fun c8 => ?_) (fun c8 => ?_)
      · refine zj_iload_n 34 X 1 dX5_most_33 rfl rfl ?_
        simpa only [if_pos c8] using J6
      · refine zj_aload_n 25 X 0 dX5_most_24 rfl rfl ?_
        refine zg_RX5_23 28 X dX5_most_25 rfl ?_
        refine zj_iload_n 29 X 2 dX5_most_28 rfl rfl ?_
        refine zl_M_points 30 X (w := zmP v 2) rfl (vp_in_iff.mpr (by decide)) dX5_most_29 rfl ?_
        refine zj_goto 34 X dX5_most_30 (by decide) ?_
        simpa only [if_neg c8] using J6
  · refine zj_icmp_le 24 33 X dX5_most_21 (by decide) rfl (fun c9 => ?_) (fun c9 => ?_)
    · refine zj_iload_n 34 X 1 dX5_most_33 rfl rfl ?_
      simpa only [if_pos c9] using J3
    · refine zj_aload_n 25 X 0 dX5_most_24 rfl rfl ?_
      refine zg_RX5_23 28 X dX5_most_25 rfl ?_
      refine zj_iload_n 29 X 2 dX5_most_28 rfl rfl ?_
      refine zl_M_points 30 X (w := zmP v 1) rfl (vp_in_iff.mpr (by decide)) dX5_most_29 rfl ?_
      refine zj_goto 34 X dX5_most_30 (by decide) ?_
      simpa only [if_neg c9] using J3
def zf_X5_base (v : zN) : Int32 := if (zmI v 13) = 4 then 24 else 9 + (zmI v 13)
abbrev zR_X5_base : Room := { frames := 0, cells := 0, slots := 0, locals := 0 }
set_option maxHeartbeats 4000000 in
set_option maxRecDepth 100000 in
theorem zc_X5_base {l : Launch} {D : va_G} {C : ClassId × ClassId} {a : Nat → Nat} {v : zN} : zk_Mp l yX5_base cX5_base 1 (some .int) zR_X5_base [.ref (a 0)] (zM C a v) D C (vp_Si (fun r => r = zf_X5_base v)) := by
  refine zk_mp (by decide) (Nat.le_of_ble_eq_true rfl) ?_
  intro p e s m below meth c X Y
  generalize hv : zf_X5_base v = V
  unfold zf_X5_base at hv
  show zJ _ _ _ _ _ _ _ _ _ _ _ _ _ _ _ _ _ 0 [(0, .ref (a 0))] []
  refine zj_aload_n 1 X 0 dX5_base_0 rfl rfl ?_
  refine zg_RX5_64 4 X (w := zmI v 13) rfl dX5_base_1 rfl ?_
  refine zj_iconst 5 X (v := 4) dX5_base_4 (by decide) rfl ?_
  refine zj_icmp_ne 8 13 X dX5_base_5 (by decide) rfl (fun c1 => ?_) (fun c1 => ?_)
  · rw [if_neg c1] at hv
    refine zj_bipush 15 X (v := 9) dX5_base_13 (by decide) rfl ?_
    refine zj_aload_n 16 X 0 dX5_base_15 rfl rfl ?_
    refine zg_RX5_64 19 X (w := zmI v 13) rfl dX5_base_16 rfl ?_
    refine zj_iadd 20 X dX5_base_19 rfl ?_
    exact ze_i X Y hv dX5_base_20
  · rw [if_pos c1] at hv
    refine zj_bipush 10 X (v := 24) dX5_base_8 (by decide) rfl ?_
    refine zj_goto 20 X dX5_base_10 (by decide) ?_
    exact ze_i X Y hv dX5_base_20
theorem zbase_ne (v : zN) (h : ¬ zmI v 13 = (-9)) : ¬ zf_X5_base v = 0 := by
  unfold zf_X5_base
  split
  · decide
  · intro h1
    exact h (by
      have h2 : zmI v 13 = (9 + zmI v 13) - 9 := by rw [Int32.add_comm]; exact (Int32.add_sub_cancel _ _).symm
      rw [h2, h1]; rfl)
def zk_X5_worthOfGame_192 (v : zN) (x1 : Int32) (x4 : Int32) (x5 : Int32) : Int32 := (zf_X5_base v) * (((((1 + (if 0 ≤ x1 then x1 else -x1)) + (if (zmI v 15) = 0 then (0 : Int32) else 1)) + (if x4 = 0 then (0 : Int32) else 1)) + (if x5 = 0 then (0 : Int32) else 1)) + (zmI v 14))
def zk_X5_worthOfGame_157 (v : zN) (x1 : Int32) (x3 : Int32) (x4 : Int32) : Int32 := zk_X5_worthOfGame_192 v x1 x4 (if 1 < (zmI v 14) then (1 : Int32) else if (zmT v ((zmI v 12).toNatClampNeg)) = 10 then (1 : Int32) else if x3 = 10 then (1 : Int32) else 0)
def zk_X5_worthOfGame_123 (v : zN) (x1 : Int32) (x2 : Int32) (x3 : Int32) : Int32 := zk_X5_worthOfGame_157 v x1 x3 (if 0 < (zmI v 14) then (1 : Int32) else if 90 ≤ (zmP v ((zmI v 12).toNatClampNeg)) then (1 : Int32) else if x2 < 90 then (0 : Int32) else 1)
def zf_X5_worthOfGame (v : zN) : Int32 := if (zmI v 13) = 5 then (if (zmI v 14) = 3 then (if (zmI v 15) = 0 then 46 else 59) else (if (zmI v 15) = 0 then 23 else 35)) else zk_X5_worthOfGame_123 v (zf_X5_gapless v (zmI v 12) (zmI v 13)) ((((zmP v 0) + (zmP v 1)) + (zmP v 2)) - (zmP v ((zmI v 12).toNatClampNeg))) ((((zmT v 0) + (zmT v 1)) + (zmT v 2)) - (zmT v ((zmI v 12).toNatClampNeg)))
abbrev zR_X5_worthOfGame : Room := { frames := 2, cells := 0, slots := 0, locals := 49 }
set_option maxHeartbeats 4000000 in
set_option maxRecDepth 100000 in
theorem zc_X5_worthOfGame {l : Launch} {D : va_G} {C : ClassId × ClassId} {a : Nat → Nat} {v : zN} (hE : vp_in (zmI v 12) 3) : zk_Mp l yX5_worthOfGame cX5_worthOfGame 6 (some .int) zR_X5_worthOfGame [.ref (a 0)] (zM C a v) D C (vp_Si (fun r => r = zf_X5_worthOfGame v)) := by
  refine zk_mp (by decide) (Nat.le_of_ble_eq_true rfl) ?_
  intro p e s m below meth c X Y
  generalize hv : zf_X5_worthOfGame v = V
  unfold zf_X5_worthOfGame at hv
  show zJ _ _ _ _ _ _ _ _ _ _ _ _ _ _ _ _ _ 0 [(0, .ref (a 0))] []
  refine zj_aload_n 1 X 0 dX5_worthOfGame_0 rfl rfl ?_
  refine zg_RX5_64 4 X (w := zmI v 13) rfl dX5_worthOfGame_1 rfl ?_
  refine zj_iconst 5 X (v := 5) dX5_worthOfGame_4 (by decide) rfl ?_
  refine zj_icmp_ne 8 48 X dX5_worthOfGame_5 (by decide) rfl (fun c1 => ?_) (fun c1 => ?_)
  · rw [if_neg c1] at hv
    refine zj_aload_n 49 X 0 dX5_worthOfGame_48 rfl rfl ?_
    refine zj_aload_n 50 X 0 dX5_worthOfGame_49 rfl rfl ?_
    refine zg_RX5_61 53 X (w := zmI v 12) rfl dX5_worthOfGame_50 rfl ?_
    refine zj_aload_n 54 X 0 dX5_worthOfGame_53 rfl rfl ?_
    refine zg_RX5_64 57 X (w := zmI v 13) rfl dX5_worthOfGame_54 rfl ?_
    refine zc_i 60 (zr_V (As := [.int (zmI v 12), .int (zmI v 13)]) (rest := []) X (zc_X5_gapless (l := l) (p0 := zmI v 12) (p1 := zmI v 13) (v := v) (hp := hE)) zw_X5_142 zn_X5_gapless (zcR_of rfl) zO_M zsI rfl (Nat.le_of_ble_eq_true rfl) dX5_worthOfGame_57) rfl ?_
    refine zj_istore_n 61 X (lv1 := [(0, .ref (a 0)), (1, .int (zf_X5_gapless v (zmI v 12) (zmI v 13)))]) [1, 0] dX5_worthOfGame_60 (by decide) rfl rfl ?_
    refine zj_aload_n 62 X 0 dX5_worthOfGame_61 rfl rfl ?_
    refine zg_RX5_23 65 X dX5_worthOfGame_62 rfl ?_
    refine zj_iconst 66 X (v := 0) dX5_worthOfGame_65 (by decide) rfl ?_
    refine zl_M_points 67 X (w := zmP v 0) rfl (vp_in_iff.mpr (by decide)) dX5_worthOfGame_66 rfl ?_
    refine zj_aload_n 68 X 0 dX5_worthOfGame_67 rfl rfl ?_
    refine zg_RX5_23 71 X dX5_worthOfGame_68 rfl ?_
    refine zj_iconst 72 X (v := 1) dX5_worthOfGame_71 (by decide) rfl ?_
    refine zl_M_points 73 X (w := zmP v 1) rfl (vp_in_iff.mpr (by decide)) dX5_worthOfGame_72 rfl ?_
    refine zj_iadd 74 X dX5_worthOfGame_73 rfl ?_
    refine zj_aload_n 75 X 0 dX5_worthOfGame_74 rfl rfl ?_
    refine zg_RX5_23 78 X dX5_worthOfGame_75 rfl ?_
    refine zj_iconst 79 X (v := 2) dX5_worthOfGame_78 (by decide) rfl ?_
    refine zl_M_points 80 X (w := zmP v 2) rfl (vp_in_iff.mpr (by decide)) dX5_worthOfGame_79 rfl ?_
    refine zj_iadd 81 X dX5_worthOfGame_80 rfl ?_
    refine zj_aload_n 82 X 0 dX5_worthOfGame_81 rfl rfl ?_
    refine zg_RX5_23 85 X dX5_worthOfGame_82 rfl ?_
    refine zj_aload_n 86 X 0 dX5_worthOfGame_85 rfl rfl ?_
    refine zg_RX5_61 89 X (w := zmI v 12) rfl dX5_worthOfGame_86 rfl ?_
    refine zl_M_points 90 X (w := zmP v ((zmI v 12).toNatClampNeg)) rfl hE dX5_worthOfGame_89 rfl ?_
    refine zj_isub 91 X dX5_worthOfGame_90 rfl ?_
    refine zj_istore_n 92 X (lv1 := [(0, .ref (a 0)), (1, .int (zf_X5_gapless v (zmI v 12) (zmI v 13))), (2, .int ((((zmP v 0) + (zmP v 1)) + (zmP v 2)) - (zmP v ((zmI v 12).toNatClampNeg))))]) [1, 2, 0] dX5_worthOfGame_91 (by decide) rfl rfl ?_
    refine zj_aload_n 93 X 0 dX5_worthOfGame_92 rfl rfl ?_
    refine zg_RX5_26 96 X dX5_worthOfGame_93 rfl ?_
    refine zj_iconst 97 X (v := 0) dX5_worthOfGame_96 (by decide) rfl ?_
    refine zl_M_tricks 98 X (w := zmT v 0) rfl (vp_in_iff.mpr (by decide)) dX5_worthOfGame_97 rfl ?_
    refine zj_aload_n 99 X 0 dX5_worthOfGame_98 rfl rfl ?_
    refine zg_RX5_26 102 X dX5_worthOfGame_99 rfl ?_
    refine zj_iconst 103 X (v := 1) dX5_worthOfGame_102 (by decide) rfl ?_
    refine zl_M_tricks 104 X (w := zmT v 1) rfl (vp_in_iff.mpr (by decide)) dX5_worthOfGame_103 rfl ?_
    refine zj_iadd 105 X dX5_worthOfGame_104 rfl ?_
    refine zj_aload_n 106 X 0 dX5_worthOfGame_105 rfl rfl ?_
    refine zg_RX5_26 109 X dX5_worthOfGame_106 rfl ?_
    refine zj_iconst 110 X (v := 2) dX5_worthOfGame_109 (by decide) rfl ?_
    refine zl_M_tricks 111 X (w := zmT v 2) rfl (vp_in_iff.mpr (by decide)) dX5_worthOfGame_110 rfl ?_
    refine zj_iadd 112 X dX5_worthOfGame_111 rfl ?_
    refine zj_aload_n 113 X 0 dX5_worthOfGame_112 rfl rfl ?_
    refine zg_RX5_26 116 X dX5_worthOfGame_113 rfl ?_
    refine zj_aload_n 117 X 0 dX5_worthOfGame_116 rfl rfl ?_
    refine zg_RX5_61 120 X (w := zmI v 12) rfl dX5_worthOfGame_117 rfl ?_
    refine zl_M_tricks 121 X (w := zmT v ((zmI v 12).toNatClampNeg)) rfl hE dX5_worthOfGame_120 rfl ?_
    refine zj_isub 122 X dX5_worthOfGame_121 rfl ?_
    refine zj_istore_n 123 X (lv1 := [(0, .ref (a 0)), (1, .int (zf_X5_gapless v (zmI v 12) (zmI v 13))), (2, .int ((((zmP v 0) + (zmP v 1)) + (zmP v 2)) - (zmP v ((zmI v 12).toNatClampNeg)))), (3, .int ((((zmT v 0) + (zmT v 1)) + (zmT v 2)) - (zmT v ((zmI v 12).toNatClampNeg))))]) [1, 2, 3, 0] dX5_worthOfGame_122 (by decide) rfl rfl ?_
    have L2 : ∀ (x1 : Int32) (x2 : Int32) (x3 : Int32), zk_X5_worthOfGame_123 v x1 x2 x3 = V → zJ p l e zR_X5_worthOfGame s m ([.ref (a 0)] : List Value).toArray below meth c 0 0 (MQ below (vp_Si (fun r => r = V)) ([.ref (a 0)] : List Value).toArray s 0 0 (fun _ => False)) D (zk_K0 s) 6 (zM C a v) 123 [(0, .ref (a 0)), (1, .int (x1)), (2, .int (x2)), (3, .int (x3))] [] := by
      intro x1 x2 x3 hv
      unfold zk_X5_worthOfGame_123 at hv
      refine zj_aload_n 124 X 0 dX5_worthOfGame_123 rfl rfl ?_
      refine zg_RX5_67 127 X (w := zmI v 14) rfl dX5_worthOfGame_124 rfl ?_
      refine zj_join 155 [(0, .ref (a 0)), (1, .int (x1)), (2, .int (x2)), (3, .int (x3))] [.int (if 0 < (zmI v 14) then (1 : Int32) else if 90 ≤ (zmP v ((zmI v 12).toNatClampNeg)) then (1 : Int32) else if x2 < 90 then (0 : Int32) else 1)] ?_ (fun J6 => ?_)
      · refine zj_istore 157 X (lv1 := [(0, .ref (a 0)), (1, .int (x1)), (2, .int (x2)), (3, .int (x3)), (4, .int (if 0 < (zmI v 14) then (1 : Int32) else if 90 ≤ (zmP v ((zmI v 12).toNatClampNeg)) then (1 : Int32) else if x2 < 90 then (0 : Int32) else 1))]) [1, 2, 3, 4, 0] dX5_worthOfGame_155 (by decide) rfl rfl ?_
        refine zj_lv (lv1 := [(0, .ref (a 0)), (1, .int (x1)), (3, .int (x3)), (4, .int (if 0 < (zmI v 14) then (1 : Int32) else if 90 ≤ (zmP v ((zmI v 12).toNatClampNeg)) then (1 : Int32) else if x2 < 90 then (0 : Int32) else 1))]) [0, 1, 3, 4] rfl ?_
        have L7 : ∀ (x1 : Int32) (x3 : Int32) (x4 : Int32), zk_X5_worthOfGame_157 v x1 x3 x4 = V → zJ p l e zR_X5_worthOfGame s m ([.ref (a 0)] : List Value).toArray below meth c 0 0 (MQ below (vp_Si (fun r => r = V)) ([.ref (a 0)] : List Value).toArray s 0 0 (fun _ => False)) D (zk_K0 s) 6 (zM C a v) 157 [(0, .ref (a 0)), (1, .int (x1)), (3, .int (x3)), (4, .int (x4))] [] := by
          intro x1 x3 x4 hv
          unfold zk_X5_worthOfGame_157 at hv
          refine zj_aload_n 158 X 0 dX5_worthOfGame_157 rfl rfl ?_
          refine zg_RX5_67 161 X (w := zmI v 14) rfl dX5_worthOfGame_158 rfl ?_
          refine zj_iconst 162 X (v := 1) dX5_worthOfGame_161 (by decide) rfl ?_
          refine zj_join 190 [(0, .ref (a 0)), (1, .int (x1)), (3, .int (x3)), (4, .int (x4))] [.int (if 1 < (zmI v 14) then (1 : Int32) else if (zmT v ((zmI v 12).toNatClampNeg)) = 10 then (1 : Int32) else if x3 = 10 then (1 : Int32) else 0)] ?_ (fun J11 => ?_)
          · refine zj_istore 192 X (lv1 := [(0, .ref (a 0)), (1, .int (x1)), (3, .int (x3)), (4, .int (x4)), (5, .int (if 1 < (zmI v 14) then (1 : Int32) else if (zmT v ((zmI v 12).toNatClampNeg)) = 10 then (1 : Int32) else if x3 = 10 then (1 : Int32) else 0))]) [1, 2, 3, 4, 0] dX5_worthOfGame_190 (by decide) rfl rfl ?_
            refine zj_lv (lv1 := [(0, .ref (a 0)), (1, .int (x1)), (4, .int (x4)), (5, .int (if 1 < (zmI v 14) then (1 : Int32) else if (zmT v ((zmI v 12).toNatClampNeg)) = 10 then (1 : Int32) else if x3 = 10 then (1 : Int32) else 0))]) [0, 1, 3, 4] rfl ?_
            have L12 : ∀ (x1 : Int32) (x4 : Int32) (x5 : Int32), zk_X5_worthOfGame_192 v x1 x4 x5 = V → zJ p l e zR_X5_worthOfGame s m ([.ref (a 0)] : List Value).toArray below meth c 0 0 (MQ below (vp_Si (fun r => r = V)) ([.ref (a 0)] : List Value).toArray s 0 0 (fun _ => False)) D (zk_K0 s) 6 (zM C a v) 192 [(0, .ref (a 0)), (1, .int (x1)), (4, .int (x4)), (5, .int (x5))] [] := by
              intro x1 x4 x5 hv
              unfold zk_X5_worthOfGame_192 at hv
              refine zj_aload_n 193 X 0 dX5_worthOfGame_192 rfl rfl ?_
              refine zc_i 196 (zr_V (As := []) (rest := []) X (zc_X5_base (l := l) (v := v)) zw_X5_168 zn_X5_base (zcR_of rfl) zO_M zsI rfl (Nat.le_of_ble_eq_true rfl) dX5_worthOfGame_193) rfl ?_
              refine zj_iconst 197 X (v := 1) dX5_worthOfGame_196 (by decide) rfl ?_
              refine zj_iload_n 198 X 1 dX5_worthOfGame_197 rfl rfl ?_
              refine zj_join 207 [(0, .ref (a 0)), (1, .int (x1)), (4, .int (x4)), (5, .int (x5))] [.int (if 0 ≤ x1 then x1 else -x1), .int (1), .int (zf_X5_base v)] ?_ (fun J14 => ?_)
              · refine zj_iadd 208 X dX5_worthOfGame_207 rfl ?_
                refine zj_aload_n 209 X 0 dX5_worthOfGame_208 rfl rfl ?_
                refine zg_RX5_70 212 X (w := zmI v 15) rfl dX5_worthOfGame_209 rfl ?_
                refine zj_join 220 [(0, .ref (a 0)), (1, .int (x1)), (4, .int (x4)), (5, .int (x5))] [.int (if (zmI v 15) = 0 then (0 : Int32) else 1), .int (1 + (if 0 ≤ x1 then x1 else -x1)), .int (zf_X5_base v)] ?_ (fun J16 => ?_)
                · refine zj_iadd 221 X dX5_worthOfGame_220 rfl ?_
                  refine zj_iload 223 X 2 dX5_worthOfGame_221 rfl rfl ?_
                  refine zj_join 231 [(0, .ref (a 0)), (1, .int (x1)), (4, .int (x4)), (5, .int (x5))] [.int (if x4 = 0 then (0 : Int32) else 1), .int ((1 + (if 0 ≤ x1 then x1 else -x1)) + (if (zmI v 15) = 0 then (0 : Int32) else 1)), .int (zf_X5_base v)] ?_ (fun J18 => ?_)
                  · refine zj_iadd 232 X dX5_worthOfGame_231 rfl ?_
                    refine zj_iload 234 X 3 dX5_worthOfGame_232 rfl rfl ?_
                    refine zj_join 242 [(0, .ref (a 0)), (1, .int (x1)), (4, .int (x4)), (5, .int (x5))] [.int (if x5 = 0 then (0 : Int32) else 1), .int (((1 + (if 0 ≤ x1 then x1 else -x1)) + (if (zmI v 15) = 0 then (0 : Int32) else 1)) + (if x4 = 0 then (0 : Int32) else 1)), .int (zf_X5_base v)] ?_ (fun J20 => ?_)
                    · refine zj_iadd 243 X dX5_worthOfGame_242 rfl ?_
                      refine zj_aload_n 244 X 0 dX5_worthOfGame_243 rfl rfl ?_
                      refine zg_RX5_67 247 X (w := zmI v 14) rfl dX5_worthOfGame_244 rfl ?_
                      refine zj_iadd 248 X dX5_worthOfGame_247 rfl ?_
                      refine zj_imul 249 X dX5_worthOfGame_248 rfl ?_
                      exact ze_i X Y hv dX5_worthOfGame_249
                    · refine zj_if_eq 237 241 X dX5_worthOfGame_234 (by decide) rfl (fun c21 => ?_) (fun c21 => ?_)
                      · refine zj_iconst 242 X (v := 0) dX5_worthOfGame_241 (by decide) rfl ?_
                        simpa only [if_pos c21] using J20
                      · refine zj_iconst 238 X (v := 1) dX5_worthOfGame_237 (by decide) rfl ?_
                        refine zj_goto 242 X dX5_worthOfGame_238 (by decide) ?_
                        simpa only [if_neg c21] using J20
                  · refine zj_if_eq 226 230 X dX5_worthOfGame_223 (by decide) rfl (fun c22 => ?_) (fun c22 => ?_)
                    · refine zj_iconst 231 X (v := 0) dX5_worthOfGame_230 (by decide) rfl ?_
                      simpa only [if_pos c22] using J18
                    · refine zj_iconst 227 X (v := 1) dX5_worthOfGame_226 (by decide) rfl ?_
                      refine zj_goto 231 X dX5_worthOfGame_227 (by decide) ?_
                      simpa only [if_neg c22] using J18
                · refine zj_if_eq 215 219 X dX5_worthOfGame_212 (by decide) rfl (fun c23 => ?_) (fun c23 => ?_)
                  · refine zj_iconst 220 X (v := 0) dX5_worthOfGame_219 (by decide) rfl ?_
                    simpa only [if_pos c23] using J16
                  · refine zj_iconst 216 X (v := 1) dX5_worthOfGame_215 (by decide) rfl ?_
                    refine zj_goto 220 X dX5_worthOfGame_216 (by decide) ?_
                    simpa only [if_neg c23] using J16
              · refine zj_if_ge 201 206 X dX5_worthOfGame_198 (by decide) rfl (fun c24 => ?_) (fun c24 => ?_)
                · refine zj_iload_n 207 X 1 dX5_worthOfGame_206 rfl rfl ?_
                  simpa only [if_pos c24] using J14
                · refine zj_iload_n 202 X 1 dX5_worthOfGame_201 rfl rfl ?_
                  refine zj_ineg 203 X dX5_worthOfGame_202 rfl ?_
                  refine zj_goto 207 X dX5_worthOfGame_203 (by decide) ?_
                  simpa only [if_neg c24] using J14
            exact L12 x1 x4 (if 1 < (zmI v 14) then (1 : Int32) else if (zmT v ((zmI v 12).toNatClampNeg)) = 10 then (1 : Int32) else if x3 = 10 then (1 : Int32) else 0)  hv
          · refine zj_icmp_gt 165 185 X dX5_worthOfGame_162 (by decide) rfl (fun c25 => ?_) (fun c25 => ?_)
            · refine zj_iconst 186 X (v := 1) dX5_worthOfGame_185 (by decide) rfl ?_
              refine zj_goto 190 X dX5_worthOfGame_186 (by decide) ?_
              simpa only [if_pos c25] using J11
            · refine zj_aload_n 166 X 0 dX5_worthOfGame_165 rfl rfl ?_
              refine zg_RX5_26 169 X dX5_worthOfGame_166 rfl ?_
              refine zj_aload_n 170 X 0 dX5_worthOfGame_169 rfl rfl ?_
              refine zg_RX5_61 173 X (w := zmI v 12) rfl dX5_worthOfGame_170 rfl ?_
              refine zl_M_tricks 174 X (w := zmT v ((zmI v 12).toNatClampNeg)) rfl hE dX5_worthOfGame_173 rfl ?_
              refine zj_bipush 176 X (v := 10) dX5_worthOfGame_174 (by decide) rfl ?_
              refine zj_icmp_eq 179 185 X dX5_worthOfGame_176 (by decide) rfl (fun c26 => ?_) (fun c26 => ?_)
              · refine zj_iconst 186 X (v := 1) dX5_worthOfGame_185 (by decide) rfl ?_
                refine zj_goto 190 X dX5_worthOfGame_186 (by decide) ?_
                simpa only [if_neg c25, if_pos c26] using J11
              · refine zj_iload_n 180 X 2 dX5_worthOfGame_179 rfl rfl ?_
                refine zj_bipush 182 X (v := 10) dX5_worthOfGame_180 (by decide) rfl ?_
                refine zj_icmp_ne 185 189 X dX5_worthOfGame_182 (by decide) rfl (fun c27 => ?_) (fun c27 => ?_)
                · refine zj_iconst 190 X (v := 0) dX5_worthOfGame_189 (by decide) rfl ?_
                  simpa only [if_neg c25, if_neg c26, if_neg c27] using J11
                · refine zj_iconst 186 X (v := 1) dX5_worthOfGame_185 (by decide) rfl ?_
                  refine zj_goto 190 X dX5_worthOfGame_186 (by decide) ?_
                  simpa only [if_neg c25, if_neg c26, if_pos c27] using J11
        exact L7 x1 x3 (if 0 < (zmI v 14) then (1 : Int32) else if 90 ≤ (zmP v ((zmI v 12).toNatClampNeg)) then (1 : Int32) else if x2 < 90 then (0 : Int32) else 1)  hv
      · refine zj_if_gt 130 150 X dX5_worthOfGame_127 (by decide) rfl (fun c28 => ?_) (fun c28 => ?_)
        · refine zj_iconst 151 X (v := 1) dX5_worthOfGame_150 (by decide) rfl ?_
          refine zj_goto 155 X dX5_worthOfGame_151 (by decide) ?_
          simpa only [if_pos c28] using J6
        · refine zj_aload_n 131 X 0 dX5_worthOfGame_130 rfl rfl ?_
          refine zg_RX5_23 134 X dX5_worthOfGame_131 rfl ?_
          refine zj_aload_n 135 X 0 dX5_worthOfGame_134 rfl rfl ?_
          refine zg_RX5_61 138 X (w := zmI v 12) rfl dX5_worthOfGame_135 rfl ?_
          refine zl_M_points 139 X (w := zmP v ((zmI v 12).toNatClampNeg)) rfl hE dX5_worthOfGame_138 rfl ?_
          refine zj_bipush 141 X (v := 90) dX5_worthOfGame_139 (by decide) rfl ?_
          refine zj_icmp_ge 144 150 X dX5_worthOfGame_141 (by decide) rfl (fun c29 => ?_) (fun c29 => ?_)
          · refine zj_iconst 151 X (v := 1) dX5_worthOfGame_150 (by decide) rfl ?_
            refine zj_goto 155 X dX5_worthOfGame_151 (by decide) ?_
            simpa only [if_neg c28, if_pos c29] using J6
          · refine zj_iload_n 145 X 2 dX5_worthOfGame_144 rfl rfl ?_
            refine zj_bipush 147 X (v := 90) dX5_worthOfGame_145 (by decide) rfl ?_
            refine zj_icmp_lt 150 154 X dX5_worthOfGame_147 (by decide) rfl (fun c30 => ?_) (fun c30 => ?_)
            · refine zj_iconst 155 X (v := 0) dX5_worthOfGame_154 (by decide) rfl ?_
              simpa only [if_neg c28, if_neg c29, if_pos c30] using J6
            · refine zj_iconst 151 X (v := 1) dX5_worthOfGame_150 (by decide) rfl ?_
              refine zj_goto 155 X dX5_worthOfGame_151 (by decide) ?_
              simpa only [if_neg c28, if_neg c29, if_neg c30] using J6
    exact L2 (zf_X5_gapless v (zmI v 12) (zmI v 13)) ((((zmP v 0) + (zmP v 1)) + (zmP v 2)) - (zmP v ((zmI v 12).toNatClampNeg))) ((((zmT v 0) + (zmT v 1)) + (zmT v 2)) - (zmT v ((zmI v 12).toNatClampNeg)))  hv
  · rw [if_pos c1] at hv
    refine zj_aload_n 9 X 0 dX5_worthOfGame_8 rfl rfl ?_
    refine zg_RX5_67 12 X (w := zmI v 14) rfl dX5_worthOfGame_9 rfl ?_
    refine zj_iconst 13 X (v := 3) dX5_worthOfGame_12 (by decide) rfl ?_
    refine zj_icmp_ne 16 33 X dX5_worthOfGame_13 (by decide) rfl (fun c31 => ?_) (fun c31 => ?_)
    · rw [if_neg c31] at hv
      refine zj_aload_n 34 X 0 dX5_worthOfGame_33 rfl rfl ?_
      refine zg_RX5_70 37 X (w := zmI v 15) rfl dX5_worthOfGame_34 rfl ?_
      refine zj_if_eq 40 45 X dX5_worthOfGame_37 (by decide) rfl (fun c32 => ?_) (fun c32 => ?_)
      · rw [if_pos c32] at hv
        refine zj_bipush 47 X (v := 23) dX5_worthOfGame_45 (by decide) rfl ?_
        exact ze_i X Y hv dX5_worthOfGame_47
      · rw [if_neg c32] at hv
        refine zj_bipush 42 X (v := 35) dX5_worthOfGame_40 (by decide) rfl ?_
        refine zj_goto 47 X dX5_worthOfGame_42 (by decide) ?_
        exact ze_i X Y hv dX5_worthOfGame_47
    · rw [if_pos c31] at hv
      refine zj_aload_n 17 X 0 dX5_worthOfGame_16 rfl rfl ?_
      refine zg_RX5_70 20 X (w := zmI v 15) rfl dX5_worthOfGame_17 rfl ?_
      refine zj_if_eq 23 28 X dX5_worthOfGame_20 (by decide) rfl (fun c33 => ?_) (fun c33 => ?_)
      · rw [if_pos c33] at hv
        refine zj_bipush 30 X (v := 46) dX5_worthOfGame_28 (by decide) rfl ?_
        refine zj_goto 47 X dX5_worthOfGame_30 (by decide) ?_
        exact ze_i X Y hv dX5_worthOfGame_47
      · rw [if_neg c33] at hv
        refine zj_bipush 25 X (v := 59) dX5_worthOfGame_23 (by decide) rfl ?_
        refine zj_goto 47 X dX5_worthOfGame_25 (by decide) ?_
        exact ze_i X Y hv dX5_worthOfGame_47
def zf_X5_valueOf (v : zN) : Int32 := if (zmI v 13) = 6 then zf_X5_most v else (if (zmI v 11) ≤ (zf_X5_worthOfGame v) then zf_X5_worthOfGame v else (if (zmI v 13) = 5 then zf_X5_worthOfGame v else ((((zmI v 11) + (zf_X5_base v)) - 1) / (zf_X5_base v)) * (zf_X5_base v)))
abbrev zR_X5_valueOf : Room := { frames := 3, cells := 0, slots := 0, locals := 74 }
set_option maxHeartbeats 4000000 in
set_option maxRecDepth 100000 in
theorem zc_X5_valueOf {l : Launch} {D : va_G} {C : ClassId × ClassId} {a : Nat → Nat} {v : zN} (hE : ¬ zmI v 13 = 6 → vp_in (zmI v 12) 3) (hB : ¬ zmI v 13 = (-9)) : zk_Mp l yX5_valueOf cX5_valueOf 2 (some .int) zR_X5_valueOf [.ref (a 0)] (zM C a v) D C (vp_Si (fun r => r = zf_X5_valueOf v)) := by
  refine zk_mp (by decide) (Nat.le_of_ble_eq_true rfl) ?_
  intro p e s m below meth c X Y
  generalize hv : zf_X5_valueOf v = V
  unfold zf_X5_valueOf at hv
  show zJ _ _ _ _ _ _ _ _ _ _ _ _ _ _ _ _ _ 0 [(0, .ref (a 0))] []
  refine zj_aload_n 1 X 0 dX5_valueOf_0 rfl rfl ?_
  refine zg_RX5_64 4 X (w := zmI v 13) rfl dX5_valueOf_1 rfl ?_
  refine zj_bipush 6 X (v := 6) dX5_valueOf_4 (by decide) rfl ?_
  refine zj_icmp_ne 9 14 X dX5_valueOf_6 (by decide) rfl (fun c1 => ?_) (fun c1 => ?_)
  · rw [if_neg c1] at hv
    refine zj_aload_n 15 X 0 dX5_valueOf_14 rfl rfl ?_
    refine zc_i 18 (zr_V (As := []) (rest := []) X (zc_X5_worthOfGame (l := l) (v := v) (hE := (hE c1))) zw_X5_174 zn_X5_worthOfGame (zcR_of rfl) zO_M zsI rfl (Nat.le_of_ble_eq_true rfl) dX5_valueOf_15) rfl ?_
    refine zj_istore_n 19 X (lv1 := [(0, .ref (a 0)), (1, .int (zf_X5_worthOfGame v))]) [1, 0] dX5_valueOf_18 (by decide) rfl rfl ?_
    refine zj_iload_n 20 X 1 dX5_valueOf_19 rfl rfl ?_
    refine zj_aload_n 21 X 0 dX5_valueOf_20 rfl rfl ?_
    refine zg_RX5_58 24 X (w := zmI v 11) rfl dX5_valueOf_21 rfl ?_
    refine zj_icmp_ge 27 35 X dX5_valueOf_24 (by decide) rfl (fun c2 => ?_) (fun c2 => ?_)
    · rw [if_pos c2] at hv
      refine zj_iload_n 36 X 1 dX5_valueOf_35 rfl rfl ?_
      refine zj_goto 60 X dX5_valueOf_36 (by decide) ?_
      exact ze_i X Y hv dX5_valueOf_60
    · rw [if_neg c2] at hv
      refine zj_aload_n 28 X 0 dX5_valueOf_27 rfl rfl ?_
      refine zg_RX5_64 31 X (w := zmI v 13) rfl dX5_valueOf_28 rfl ?_
      refine zj_iconst 32 X (v := 5) dX5_valueOf_31 (by decide) rfl ?_
      refine zj_icmp_ne 35 39 X dX5_valueOf_32 (by decide) rfl (fun c3 => ?_) (fun c3 => ?_)
      · rw [if_neg c3] at hv
        refine zj_aload_n 40 X 0 dX5_valueOf_39 rfl rfl ?_
        refine zg_RX5_58 43 X (w := zmI v 11) rfl dX5_valueOf_40 rfl ?_
        refine zj_aload_n 44 X 0 dX5_valueOf_43 rfl rfl ?_
        refine zc_i 47 (zr_V (As := []) (rest := [.int (zmI v 11)]) X (zc_X5_base (l := l) (v := v)) zw_X5_168 zn_X5_base (zcR_of rfl) zO_M zsI rfl (Nat.le_of_ble_eq_true rfl) dX5_valueOf_44) rfl ?_
        refine zj_iadd 48 X dX5_valueOf_47 rfl ?_
        refine zj_iconst 49 X (v := 1) dX5_valueOf_48 (by decide) rfl ?_
        refine zj_isub 50 X dX5_valueOf_49 rfl ?_
        refine zj_aload_n 51 X 0 dX5_valueOf_50 rfl rfl ?_
        refine zc_i 54 (zr_V (As := []) (rest := [.int (((zmI v 11) + (zf_X5_base v)) - 1)]) X (zc_X5_base (l := l) (v := v)) zw_X5_168 zn_X5_base (zcR_of rfl) zO_M zsI rfl (Nat.le_of_ble_eq_true rfl) dX5_valueOf_51) rfl ?_
        refine zj_idiv 55 X dX5_valueOf_54 (zbase_ne _ hB) rfl ?_
        refine zj_aload_n 56 X 0 dX5_valueOf_55 rfl rfl ?_
        refine zc_i 59 (zr_V (As := []) (rest := [.int ((((zmI v 11) + (zf_X5_base v)) - 1) / (zf_X5_base v))]) X (zc_X5_base (l := l) (v := v)) zw_X5_168 zn_X5_base (zcR_of rfl) zO_M zsI rfl (Nat.le_of_ble_eq_true rfl) dX5_valueOf_56) rfl ?_
        refine zj_imul 60 X dX5_valueOf_59 rfl ?_
        exact ze_i X Y hv dX5_valueOf_60
      · rw [if_pos c3] at hv
        refine zj_iload_n 36 X 1 dX5_valueOf_35 rfl rfl ?_
        refine zj_goto 60 X dX5_valueOf_36 (by decide) ?_
        exact ze_i X Y hv dX5_valueOf_60
  · rw [if_pos c1] at hv
    refine zj_aload_n 10 X 0 dX5_valueOf_9 rfl rfl ?_
    refine zc_i 13 (zr_V (As := []) (rest := []) X (zc_X5_most (l := l) (v := v)) zw_X5_171 zn_X5_most (zcR_of rfl) zO_M zsI rfl (Nat.le_of_ble_eq_true rfl) dX5_valueOf_10) rfl ?_
    exact ze_i X Y hv dX5_valueOf_13
def zf_X5_isWon (v : zN) : Int32 := if (zmI v 11) ≤ (zf_X5_worthOfGame v) then (if (zmI v 13) = 5 then (if (zmT v ((zmI v 12).toNatClampNeg)) = 0 then 1 else 0) else (if (zmI v 14) ≤ 1 then (if (zmI v 14) = 1 then (if (zmP v ((zmI v 12).toNatClampNeg)) < 90 then 0 else 1) else (if (zmP v ((zmI v 12).toNatClampNeg)) < 61 then 0 else 1)) else (if (zmT v ((zmI v 12).toNatClampNeg)) = 10 then 1 else 0))) else 0
abbrev zR_X5_isWon : Room := { frames := 3, cells := 0, slots := 0, locals := 74 }
set_option maxHeartbeats 4000000 in
set_option maxRecDepth 100000 in
theorem zc_X5_isWon {l : Launch} {D : va_G} {C : ClassId × ClassId} {a : Nat → Nat} {v : zN} (hE : vp_in (zmI v 12) 3) : zk_Mp l yX5_isWon cX5_isWon 1 (some .boolean) zR_X5_isWon [.ref (a 0)] (zM C a v) D C (vp_Si (fun r => r = zf_X5_isWon v)) := by
  refine zk_mp (by decide) (Nat.le_of_ble_eq_true rfl) ?_
  intro p e s m below meth c X Y
  generalize hv : zf_X5_isWon v = V
  unfold zf_X5_isWon at hv
  show zJ _ _ _ _ _ _ _ _ _ _ _ _ _ _ _ _ _ 0 [(0, .ref (a 0))] []
  refine zj_aload_n 1 X 0 dX5_isWon_0 rfl rfl ?_
  refine zc_i 4 (zr_V (As := []) (rest := []) X (zc_X5_worthOfGame (l := l) (v := v) (hE := hE)) zw_X5_174 zn_X5_worthOfGame (zcR_of rfl) zO_M zsI rfl (Nat.le_of_ble_eq_true rfl) dX5_isWon_1) rfl ?_
  refine zj_aload_n 5 X 0 dX5_isWon_4 rfl rfl ?_
  refine zg_RX5_58 8 X (w := zmI v 11) rfl dX5_isWon_5 rfl ?_
  refine zj_icmp_ge 11 13 X dX5_isWon_8 (by decide) rfl (fun c1 => ?_) (fun c1 => ?_)
  · rw [if_pos c1] at hv
    refine zj_aload_n 14 X 0 dX5_isWon_13 rfl rfl ?_
    refine zg_RX5_64 17 X (w := zmI v 13) rfl dX5_isWon_14 rfl ?_
    refine zj_iconst 18 X (v := 5) dX5_isWon_17 (by decide) rfl ?_
    refine zj_icmp_ne 21 39 X dX5_isWon_18 (by decide) rfl (fun c2 => ?_) (fun c2 => ?_)
    · rw [if_neg c2] at hv
      refine zj_aload_n 40 X 0 dX5_isWon_39 rfl rfl ?_
      refine zg_RX5_67 43 X (w := zmI v 14) rfl dX5_isWon_40 rfl ?_
      refine zj_iconst 44 X (v := 1) dX5_isWon_43 (by decide) rfl ?_
      refine zj_icmp_le 47 69 X dX5_isWon_44 (by decide) rfl (fun c3 => ?_) (fun c3 => ?_)
      · rw [if_pos c3] at hv
        refine zj_aload_n 70 X 0 dX5_isWon_69 rfl rfl ?_
        refine zg_RX5_23 73 X dX5_isWon_70 rfl ?_
        refine zj_aload_n 74 X 0 dX5_isWon_73 rfl rfl ?_
        refine zg_RX5_61 77 X (w := zmI v 12) rfl dX5_isWon_74 rfl ?_
        refine zl_M_points 78 X (w := zmP v ((zmI v 12).toNatClampNeg)) rfl hE dX5_isWon_77 rfl ?_
        refine zj_aload_n 79 X 0 dX5_isWon_78 rfl rfl ?_
        refine zg_RX5_67 82 X (w := zmI v 14) rfl dX5_isWon_79 rfl ?_
        refine zj_iconst 83 X (v := 1) dX5_isWon_82 (by decide) rfl ?_
        refine zj_icmp_ne 86 91 X dX5_isWon_83 (by decide) rfl (fun c4 => ?_) (fun c4 => ?_)
        · rw [if_neg c4] at hv
          refine zj_bipush 93 X (v := 61) dX5_isWon_91 (by decide) rfl ?_
          refine zj_icmp_lt 96 100 X dX5_isWon_93 (by decide) rfl (fun c5 => ?_) (fun c5 => ?_)
          · rw [if_pos c5] at hv
            refine zj_iconst 101 X (v := 0) dX5_isWon_100 (by decide) rfl ?_
            exact ze_z X Y (by decide) hv dX5_isWon_101
          · rw [if_neg c5] at hv
            refine zj_iconst 97 X (v := 1) dX5_isWon_96 (by decide) rfl ?_
            refine zj_goto 101 X dX5_isWon_97 (by decide) ?_
            exact ze_z X Y (by decide) hv dX5_isWon_101
        · rw [if_pos c4] at hv
          refine zj_bipush 88 X (v := 90) dX5_isWon_86 (by decide) rfl ?_
          refine zj_goto 93 X dX5_isWon_88 (by decide) ?_
          refine zj_icmp_lt 96 100 X dX5_isWon_93 (by decide) rfl (fun c6 => ?_) (fun c6 => ?_)
          · rw [if_pos c6] at hv
            refine zj_iconst 101 X (v := 0) dX5_isWon_100 (by decide) rfl ?_
            exact ze_z X Y (by decide) hv dX5_isWon_101
          · rw [if_neg c6] at hv
            refine zj_iconst 97 X (v := 1) dX5_isWon_96 (by decide) rfl ?_
            refine zj_goto 101 X dX5_isWon_97 (by decide) ?_
            exact ze_z X Y (by decide) hv dX5_isWon_101
      · rw [if_neg c3] at hv
        refine zj_aload_n 48 X 0 dX5_isWon_47 rfl rfl ?_
        refine zg_RX5_26 51 X dX5_isWon_48 rfl ?_
        refine zj_aload_n 52 X 0 dX5_isWon_51 rfl rfl ?_
        refine zg_RX5_61 55 X (w := zmI v 12) rfl dX5_isWon_52 rfl ?_
        refine zl_M_tricks 56 X (w := zmT v ((zmI v 12).toNatClampNeg)) rfl hE dX5_isWon_55 rfl ?_
        refine zj_bipush 58 X (v := 10) dX5_isWon_56 (by decide) rfl ?_
        refine zj_icmp_ne 61 65 X dX5_isWon_58 (by decide) rfl (fun c7 => ?_) (fun c7 => ?_)
        · rw [if_neg c7] at hv
          refine zj_iconst 66 X (v := 0) dX5_isWon_65 (by decide) rfl ?_
          refine zj_goto 101 X dX5_isWon_66 (by decide) ?_
          exact ze_z X Y (by decide) hv dX5_isWon_101
        · rw [if_pos c7] at hv
          refine zj_iconst 62 X (v := 1) dX5_isWon_61 (by decide) rfl ?_
          refine zj_goto 101 X dX5_isWon_62 (by decide) ?_
          exact ze_z X Y (by decide) hv dX5_isWon_101
    · rw [if_pos c2] at hv
      refine zj_aload_n 22 X 0 dX5_isWon_21 rfl rfl ?_
      refine zg_RX5_26 25 X dX5_isWon_22 rfl ?_
      refine zj_aload_n 26 X 0 dX5_isWon_25 rfl rfl ?_
      refine zg_RX5_61 29 X (w := zmI v 12) rfl dX5_isWon_26 rfl ?_
      refine zl_M_tricks 30 X (w := zmT v ((zmI v 12).toNatClampNeg)) rfl hE dX5_isWon_29 rfl ?_
      refine zj_if_ne 33 37 X dX5_isWon_30 (by decide) rfl (fun c8 => ?_) (fun c8 => ?_)
      · rw [if_neg c8] at hv
        refine zj_iconst 38 X (v := 0) dX5_isWon_37 (by decide) rfl ?_
        exact ze_z X Y (by decide) hv dX5_isWon_38
      · rw [if_pos c8] at hv
        refine zj_iconst 34 X (v := 1) dX5_isWon_33 (by decide) rfl ?_
        refine zj_goto 38 X dX5_isWon_34 (by decide) ?_
        exact ze_z X Y (by decide) hv dX5_isWon_38
  · rw [if_neg c1] at hv
    refine zj_iconst 12 X (v := 0) dX5_isWon_11 (by decide) rfl ?_
    exact ze_z X Y (by decide) hv dX5_isWon_12
def zk_X5_ends_43 (v : zN) (x1 : Int32) (w9 : zN) : zN := if (zmI w9 13) = 6 then zmO1 (zmO1 (zmO1 w9 0 ((zmO w9 0) - (if (zmI w9 13) = 6 then if (zmP w9 0) = x1 then x1 else 0 else 0))) 1 ((zmO w9 1) - (if (zmI w9 13) = 6 then if (zmP w9 1) = x1 then x1 else 0 else 0))) 2 ((zmO w9 2) - (if (zmI w9 13) = 6 then if (zmP w9 2) = x1 then x1 else 0 else 0)) else zmO1 (zmO1 (zmO1 (zmO1 w9 0 ((zmO w9 0) - (if (zmI w9 13) = 6 then if (zmP w9 0) = x1 then x1 else 0 else 0))) 1 ((zmO w9 1) - (if (zmI w9 13) = 6 then if (zmP w9 1) = x1 then x1 else 0 else 0))) 2 ((zmO w9 2) - (if (zmI w9 13) = 6 then if (zmP w9 2) = x1 then x1 else 0 else 0))) ((zmI w9 12).toNatClampNeg) ((zmO (zmO1 (zmO1 (zmO1 w9 0 ((zmO w9 0) - (if (zmI w9 13) = 6 then if (zmP w9 0) = x1 then x1 else 0 else 0))) 1 ((zmO w9 1) - (if (zmI w9 13) = 6 then if (zmP w9 1) = x1 then x1 else 0 else 0))) 2 ((zmO w9 2) - (if (zmI w9 13) = 6 then if (zmP w9 2) = x1 then x1 else 0 else 0))) ((zmI w9 12).toNatClampNeg)) + (if (zf_X5_isWon (zmO1 (zmO1 (zmO1 w9 0 ((zmO w9 0) - (if (zmI w9 13) = 6 then if (zmP w9 0) = x1 then x1 else 0 else 0))) 1 ((zmO w9 1) - (if (zmI w9 13) = 6 then if (zmP w9 1) = x1 then x1 else 0 else 0))) 2 ((zmO w9 2) - (if (zmI w9 13) = 6 then if (zmP w9 2) = x1 then x1 else 0 else 0)))) = 0 then (-2) * x1 else x1))
def zf_X5_ends (v : zN) : zN := zk_X5_ends_43 v (zf_X5_valueOf (zmP1 (zmI1 v 2 6) ((zmI v 18).toNatClampNeg) ((zmP v ((zmI v 18).toNatClampNeg)) + (if (zmI v 13) = 6 then zf_X5_worthOf (zmK v) else 0)))) (zmP1 (zmI1 v 2 6) ((zmI v 18).toNatClampNeg) ((zmP v ((zmI v 18).toNatClampNeg)) + (if (zmI v 13) = 6 then zf_X5_worthOf (zmK v) else 0)))
abbrev zR_X5_ends : Room := { frames := 4, cells := 0, slots := 0, locals := 95 }
set_option maxHeartbeats 4000000 in
set_option maxRecDepth 100000 in
theorem zc_X5_ends {l : Launch} {D : va_G} {C : ClassId × ClassId} {a : Nat → Nat} {v : zN} (hL : vp_in (zmI v 18) 3) (hE : ¬ zmI v 13 = 6 → vp_in (zmI v 12) 3) (hB : ¬ zmI v 13 = (-9)) : zk_Mm l yX5_ends cX5_ends 3 none zR_X5_ends [.ref (a 0)] (zM C a v) D C (fun A => va_Qv (fun u' => u' = zf_X5_ends v) (fun u' t => va_P D vwCl (zM C a u') t.heap) A) := by
  refine zk_mm (by decide) (Nat.le_of_ble_eq_true rfl) ?_
  intro p e s m below meth c A X Y hD hA
  generalize hv : zf_X5_ends v = V
  unfold zf_X5_ends at hv
  show zJ _ _ _ _ _ _ _ _ _ _ _ _ _ _ _ _ _ 0 [(0, .ref (a 0))] []
  refine zj_aload_n 1 X 0 dX5_ends_0 rfl rfl ?_
  refine zj_bipush 3 X (v := 6) dX5_ends_1 (by decide) rfl ?_
  refine zp_RX5_94 6 X (zD_M _ hD) dX5_ends_3 rfl ?_
  refine zj_aload_n 7 X 0 dX5_ends_6 rfl rfl ?_
  refine zg_RX5_23 10 X dX5_ends_7 rfl ?_
  refine zj_aload_n 11 X 0 dX5_ends_10 rfl rfl ?_
  refine zg_RX5_117 14 X (w := zmI v 18) rfl dX5_ends_11 rfl ?_
  refine zj_dup2_11 15 X dX5_ends_14 rfl rfl rfl ?_
  refine zl_M_points 16 X (w := zmP v ((zmI v 18).toNatClampNeg)) rfl hL dX5_ends_15 rfl ?_
  refine zj_aload_n 17 X 0 dX5_ends_16 rfl rfl ?_
  refine zg_RX5_64 20 X (w := zmI v 13) rfl dX5_ends_17 rfl ?_
  refine zj_bipush 22 X (v := 6) dX5_ends_20 (by decide) rfl ?_
  refine zj_join 36 [(0, .ref (a 0))] [.int (if (zmI v 13) = 6 then zf_X5_worthOf (zmK v) else 0), .int (zmP v ((zmI v 18).toNatClampNeg)), .int (zmI v 18), .ref (a 5)] ?_ (fun J2 => ?_)
  · refine zj_iadd 37 X dX5_ends_36 rfl ?_
    refine zt_M_points 38 X (zD_M _ hD) hL dX5_ends_37 rfl ?_
    refine zj_aload_n 39 X 0 dX5_ends_38 rfl rfl ?_
    refine zc_i 42 (zr_V (As := []) (rest := []) X (zc_X5_valueOf (l := l) (v := zmP1 (zmI1 v 2 6) ((zmI v 18).toNatClampNeg) ((zmP v ((zmI v 18).toNatClampNeg)) + (if (zmI v 13) = 6 then zf_X5_worthOf (zmK v) else 0))) (hE := hE) (hB := hB)) zw_X5_177 zn_X5_valueOf (zcR_of rfl) zO_M zsI rfl (Nat.le_of_ble_eq_true rfl) dX5_ends_39) rfl ?_
    refine zj_istore_n 43 X (lv1 := [(0, .ref (a 0)), (1, .int (zf_X5_valueOf (zmP1 (zmI1 v 2 6) ((zmI v 18).toNatClampNeg) ((zmP v ((zmI v 18).toNatClampNeg)) + (if (zmI v 13) = 6 then zf_X5_worthOf (zmK v) else 0)))))]) [1, 0] dX5_ends_42 (by decide) rfl rfl ?_
    have L3 : ∀ (x1 : Int32) (w9 : zN), (¬ zmI w9 13 = 6 → vp_in (zmI w9 12) 3) → zk_X5_ends_43 v x1 w9 = V → zJ p l e zR_X5_ends s m ([.ref (a 0)] : List Value).toArray below meth c 0 0 (MQ below (va_Qv (fun u' => u' = V) (fun u' t => va_P D vwCl (zM C a u') t.heap) A) ([.ref (a 0)] : List Value).toArray s 0 0 A) D (zk_Km A s) 3 (zM C a w9) 43 [(0, .ref (a 0)), (1, .int (x1))] [] := by
      intro x1 w9 hE hv
      unfold zk_X5_ends_43 at hv
      refine zj_iconst 44 X (v := 0) dX5_ends_43 (by decide) rfl ?_
      refine zj_istore_n 45 X (lv1 := [(0, .ref (a 0)), (1, .int (x1)), (2, .int (0))]) [1, 2, 0] dX5_ends_44 (by decide) rfl rfl ?_
      refine zj_iload_n 46 X 2 dX5_ends_45 rfl rfl ?_
      refine zj_iconst 47 X (v := 3) dX5_ends_46 (by decide) rfl ?_
      refine zj_icmp_ge 50 89 X dX5_ends_47 (by decide) rfl (fun c4 => absurd c4 (by decide)) (fun _ => ?_)
      refine zj_aload_n 51 X 0 dX5_ends_50 rfl rfl ?_
      refine zg_RX5_29 54 X dX5_ends_51 rfl ?_
      refine zj_iload_n 55 X 2 dX5_ends_54 rfl rfl ?_
      refine zj_dup2_11 56 X dX5_ends_55 rfl rfl rfl ?_
      refine zl_M_scores 57 X (w := zmO w9 0) rfl (vp_in_iff.mpr (by decide)) dX5_ends_56 rfl ?_
      refine zj_aload_n 58 X 0 dX5_ends_57 rfl rfl ?_
      refine zg_RX5_64 61 X (w := zmI w9 13) rfl dX5_ends_58 rfl ?_
      refine zj_bipush 63 X (v := 6) dX5_ends_61 (by decide) rfl ?_
      refine zj_join 81 [(0, .ref (a 0)), (1, .int (x1)), (2, .int (0))] [.int (if (zmI w9 13) = 6 then if (zmP w9 0) = x1 then x1 else 0 else 0), .int (zmO w9 0), .int (0), .ref (a 7)] ?_ (fun J7 => ?_)
      · refine zj_isub 82 X dX5_ends_81 rfl ?_
        refine zt_M_scores 83 X (zD_M _ hD) (vp_in_iff.mpr (by decide)) dX5_ends_82 rfl ?_
        show zJ _ _ _ _ _ _ _ _ _ _ _ _ _ _ _ _ (zM C a (zmO1 w9 0 ((zmO w9 0) - (if (zmI w9 13) = 6 then if (zmP w9 0) = x1 then x1 else 0 else 0)))) 83 [(0, .ref (a 0)), (1, .int (x1)), (2, .int (0))] []
        refine zj_iinc 86 X (v := 1) (lv1 := [(0, .ref (a 0)), (1, .int (x1)), (2, .int (1))]) 2 [1, 2, 0] dX5_ends_83 rfl (by decide) (by decide) rfl rfl ?_
        refine zj_goto 45 X dX5_ends_86 (by decide) ?_
        refine zj_iload_n 46 X 2 dX5_ends_45 rfl rfl ?_
        refine zj_iconst 47 X (v := 3) dX5_ends_46 (by decide) rfl ?_
        refine zj_icmp_ge 50 89 X dX5_ends_47 (by decide) rfl (fun c8 => absurd c8 (by decide)) (fun _ => ?_)
        refine zj_aload_n 51 X 0 dX5_ends_50 rfl rfl ?_
        refine zg_RX5_29 54 X dX5_ends_51 rfl ?_
        refine zj_iload_n 55 X 2 dX5_ends_54 rfl rfl ?_
        refine zj_dup2_11 56 X dX5_ends_55 rfl rfl rfl ?_
        refine zl_M_scores 57 X (w := zmO w9 1) rfl (vp_in_iff.mpr (by decide)) dX5_ends_56 rfl ?_
        refine zj_aload_n 58 X 0 dX5_ends_57 rfl rfl ?_
        refine zg_RX5_64 61 X (w := zmI w9 13) rfl dX5_ends_58 rfl ?_
        refine zj_bipush 63 X (v := 6) dX5_ends_61 (by decide) rfl ?_
        refine zj_join 81 [(0, .ref (a 0)), (1, .int (x1)), (2, .int (1))] [.int (if (zmI w9 13) = 6 then if (zmP w9 1) = x1 then x1 else 0 else 0), .int (zmO w9 1), .int (1), .ref (a 7)] ?_ (fun J11 => ?_)
        · refine zj_isub 82 X dX5_ends_81 rfl ?_
          refine zt_M_scores 83 X (zD_M _ hD) (vp_in_iff.mpr (by decide)) dX5_ends_82 rfl ?_
          show zJ _ _ _ _ _ _ _ _ _ _ _ _ _ _ _ _ (zM C a (zmO1 (zmO1 w9 0 ((zmO w9 0) - (if (zmI w9 13) = 6 then if (zmP w9 0) = x1 then x1 else 0 else 0))) 1 ((zmO w9 1) - (if (zmI w9 13) = 6 then if (zmP w9 1) = x1 then x1 else 0 else 0)))) 83 [(0, .ref (a 0)), (1, .int (x1)), (2, .int (1))] []
          refine zj_iinc 86 X (v := 2) (lv1 := [(0, .ref (a 0)), (1, .int (x1)), (2, .int (2))]) 2 [1, 2, 0] dX5_ends_83 rfl (by decide) (by decide) rfl rfl ?_
          refine zj_goto 45 X dX5_ends_86 (by decide) ?_
          refine zj_iload_n 46 X 2 dX5_ends_45 rfl rfl ?_
          refine zj_iconst 47 X (v := 3) dX5_ends_46 (by decide) rfl ?_
          refine zj_icmp_ge 50 89 X dX5_ends_47 (by decide) rfl (fun c12 => absurd c12 (by decide)) (fun _ => ?_)
          refine zj_aload_n 51 X 0 dX5_ends_50 rfl rfl ?_
          refine zg_RX5_29 54 X dX5_ends_51 rfl ?_
          refine zj_iload_n 55 X 2 dX5_ends_54 rfl rfl ?_
          refine zj_dup2_11 56 X dX5_ends_55 rfl rfl rfl ?_
          refine zl_M_scores 57 X (w := zmO w9 2) rfl (vp_in_iff.mpr (by decide)) dX5_ends_56 rfl ?_
          refine zj_aload_n 58 X 0 dX5_ends_57 rfl rfl ?_
          refine zg_RX5_64 61 X (w := zmI w9 13) rfl dX5_ends_58 rfl ?_
          refine zj_bipush 63 X (v := 6) dX5_ends_61 (by decide) rfl ?_
          refine zj_join 81 [(0, .ref (a 0)), (1, .int (x1)), (2, .int (2))] [.int (if (zmI w9 13) = 6 then if (zmP w9 2) = x1 then x1 else 0 else 0), .int (zmO w9 2), .int (2), .ref (a 7)] ?_ (fun J15 => ?_)
          · refine zj_isub 82 X dX5_ends_81 rfl ?_
            refine zt_M_scores 83 X (zD_M _ hD) (vp_in_iff.mpr (by decide)) dX5_ends_82 rfl ?_
            show zJ _ _ _ _ _ _ _ _ _ _ _ _ _ _ _ _ (zM C a (zmO1 (zmO1 (zmO1 w9 0 ((zmO w9 0) - (if (zmI w9 13) = 6 then if (zmP w9 0) = x1 then x1 else 0 else 0))) 1 ((zmO w9 1) - (if (zmI w9 13) = 6 then if (zmP w9 1) = x1 then x1 else 0 else 0))) 2 ((zmO w9 2) - (if (zmI w9 13) = 6 then if (zmP w9 2) = x1 then x1 else 0 else 0)))) 83 [(0, .ref (a 0)), (1, .int (x1)), (2, .int (2))] []
            refine zj_iinc 86 X (v := 3) (lv1 := [(0, .ref (a 0)), (1, .int (x1)), (2, .int (3))]) 2 [1, 2, 0] dX5_ends_83 rfl (by decide) (by decide) rfl rfl ?_
            refine zj_goto 45 X dX5_ends_86 (by decide) ?_
            refine zj_iload_n 46 X 2 dX5_ends_45 rfl rfl ?_
            refine zj_iconst 47 X (v := 3) dX5_ends_46 (by decide) rfl ?_
            refine zj_icmp_ge 50 89 X dX5_ends_47 (by decide) rfl (fun _ => ?_) (fun c16 => absurd c16 (by decide))
            refine zj_aload_n 90 X 0 dX5_ends_89 rfl rfl ?_
            refine zg_RX5_64 93 X (w := zmI w9 13) rfl dX5_ends_90 rfl ?_
            refine zj_bipush 95 X (v := 6) dX5_ends_93 (by decide) rfl ?_
            refine zj_icmp_eq 98 125 X dX5_ends_95 (by decide) rfl (fun c17 => ?_) (fun c17 => ?_)
            · rw [if_pos c17] at hv
              exact ze_vm (Wd := zM C a) (u := zmO1 (zmO1 (zmO1 w9 0 ((zmO w9 0) - (if (zmI w9 13) = 6 then if (zmP w9 0) = x1 then x1 else 0 else 0))) 1 ((zmO w9 1) - (if (zmI w9 13) = 6 then if (zmP w9 1) = x1 then x1 else 0 else 0))) 2 ((zmO w9 2) - (if (zmI w9 13) = 6 then if (zmP w9 2) = x1 then x1 else 0 else 0))) X Y hv dX5_ends_125
            · rw [if_neg c17] at hv
              refine zj_aload_n 99 X 0 dX5_ends_98 rfl rfl ?_
              refine zg_RX5_29 102 X dX5_ends_99 rfl ?_
              refine zj_aload_n 103 X 0 dX5_ends_102 rfl rfl ?_
              refine zg_RX5_61 106 X (w := zmI w9 12) rfl dX5_ends_103 rfl ?_
              refine zj_dup2_11 107 X dX5_ends_106 rfl rfl rfl ?_
              refine zl_M_scores 108 X (w := zmO (zmO1 (zmO1 (zmO1 w9 0 ((zmO w9 0) - (if (zmI w9 13) = 6 then if (zmP w9 0) = x1 then x1 else 0 else 0))) 1 ((zmO w9 1) - (if (zmI w9 13) = 6 then if (zmP w9 1) = x1 then x1 else 0 else 0))) 2 ((zmO w9 2) - (if (zmI w9 13) = 6 then if (zmP w9 2) = x1 then x1 else 0 else 0))) ((zmI w9 12).toNatClampNeg)) rfl (hE c17) dX5_ends_107 rfl ?_
              refine zj_aload_n 109 X 0 dX5_ends_108 rfl rfl ?_
              refine zc_i 112 (zr_V (As := []) (rest := [.int (zmO (zmO1 (zmO1 (zmO1 w9 0 ((zmO w9 0) - (if (zmI w9 13) = 6 then if (zmP w9 0) = x1 then x1 else 0 else 0))) 1 ((zmO w9 1) - (if (zmI w9 13) = 6 then if (zmP w9 1) = x1 then x1 else 0 else 0))) 2 ((zmO w9 2) - (if (zmI w9 13) = 6 then if (zmP w9 2) = x1 then x1 else 0 else 0))) ((zmI w9 12).toNatClampNeg)), .int (zmI w9 12), .ref (a 7)]) X (zc_X5_isWon (l := l) (v := zmO1 (zmO1 (zmO1 w9 0 ((zmO w9 0) - (if (zmI w9 13) = 6 then if (zmP w9 0) = x1 then x1 else 0 else 0))) 1 ((zmO w9 1) - (if (zmI w9 13) = 6 then if (zmP w9 1) = x1 then x1 else 0 else 0))) 2 ((zmO w9 2) - (if (zmI w9 13) = 6 then if (zmP w9 2) = x1 then x1 else 0 else 0))) (hE := (hE c17))) zw_X5_180 zn_X5_isWon (zcR_of rfl) zO_M zsI rfl (Nat.le_of_ble_eq_true rfl) dX5_ends_109) rfl ?_
              refine zj_join 123 [(0, .ref (a 0)), (1, .int (x1)), (2, .int (3))] [.int (if (zf_X5_isWon (zmO1 (zmO1 (zmO1 w9 0 ((zmO w9 0) - (if (zmI w9 13) = 6 then if (zmP w9 0) = x1 then x1 else 0 else 0))) 1 ((zmO w9 1) - (if (zmI w9 13) = 6 then if (zmP w9 1) = x1 then x1 else 0 else 0))) 2 ((zmO w9 2) - (if (zmI w9 13) = 6 then if (zmP w9 2) = x1 then x1 else 0 else 0)))) = 0 then (-2) * x1 else x1), .int (zmO (zmO1 (zmO1 (zmO1 w9 0 ((zmO w9 0) - (if (zmI w9 13) = 6 then if (zmP w9 0) = x1 then x1 else 0 else 0))) 1 ((zmO w9 1) - (if (zmI w9 13) = 6 then if (zmP w9 1) = x1 then x1 else 0 else 0))) 2 ((zmO w9 2) - (if (zmI w9 13) = 6 then if (zmP w9 2) = x1 then x1 else 0 else 0))) ((zmI w9 12).toNatClampNeg)), .int (zmI w9 12), .ref (a 7)] ?_ (fun J19 => ?_)
              · refine zj_iadd 124 X dX5_ends_123 rfl ?_
                refine zt_M_scores 125 X (zD_M _ hD) (hE c17) dX5_ends_124 rfl ?_
                exact ze_vm (Wd := zM C a) (u := zmO1 (zmO1 (zmO1 (zmO1 w9 0 ((zmO w9 0) - (if (zmI w9 13) = 6 then if (zmP w9 0) = x1 then x1 else 0 else 0))) 1 ((zmO w9 1) - (if (zmI w9 13) = 6 then if (zmP w9 1) = x1 then x1 else 0 else 0))) 2 ((zmO w9 2) - (if (zmI w9 13) = 6 then if (zmP w9 2) = x1 then x1 else 0 else 0))) ((zmI w9 12).toNatClampNeg) ((zmO (zmO1 (zmO1 (zmO1 w9 0 ((zmO w9 0) - (if (zmI w9 13) = 6 then if (zmP w9 0) = x1 then x1 else 0 else 0))) 1 ((zmO w9 1) - (if (zmI w9 13) = 6 then if (zmP w9 1) = x1 then x1 else 0 else 0))) 2 ((zmO w9 2) - (if (zmI w9 13) = 6 then if (zmP w9 2) = x1 then x1 else 0 else 0))) ((zmI w9 12).toNatClampNeg)) + (if (zf_X5_isWon (zmO1 (zmO1 (zmO1 w9 0 ((zmO w9 0) - (if (zmI w9 13) = 6 then if (zmP w9 0) = x1 then x1 else 0 else 0))) 1 ((zmO w9 1) - (if (zmI w9 13) = 6 then if (zmP w9 1) = x1 then x1 else 0 else 0))) 2 ((zmO w9 2) - (if (zmI w9 13) = 6 then if (zmP w9 2) = x1 then x1 else 0 else 0)))) = 0 then (-2) * x1 else x1))) X Y hv dX5_ends_125
              · refine zj_if_eq 115 119 X dX5_ends_112 (by decide) rfl (fun c20 => ?_) (fun c20 => ?_)
                · refine zj_bipush 121 X (v := (-2)) dX5_ends_119 (by decide) rfl ?_
                  refine zj_iload_n 122 X 1 dX5_ends_121 rfl rfl ?_
                  refine zj_imul 123 X dX5_ends_122 rfl ?_
                  simpa only [if_pos c20] using J19
                · refine zj_iload_n 116 X 1 dX5_ends_115 rfl rfl ?_
                  refine zj_goto 123 X dX5_ends_116 (by decide) ?_
                  simpa only [if_neg c20] using J19
          · refine zj_icmp_ne 66 80 X dX5_ends_63 (by decide) rfl (fun c21 => ?_) (fun c21 => ?_)
            · refine zj_iconst 81 X (v := 0) dX5_ends_80 (by decide) rfl ?_
              simpa only [if_neg c21] using J15
            · refine zj_aload_n 67 X 0 dX5_ends_66 rfl rfl ?_
              refine zg_RX5_23 70 X dX5_ends_67 rfl ?_
              refine zj_iload_n 71 X 2 dX5_ends_70 rfl rfl ?_
              refine zl_M_points 72 X (w := zmP w9 2) rfl (vp_in_iff.mpr (by decide)) dX5_ends_71 rfl ?_
              refine zj_iload_n 73 X 1 dX5_ends_72 rfl rfl ?_
              refine zj_icmp_ne 76 80 X dX5_ends_73 (by decide) rfl (fun c22 => ?_) (fun c22 => ?_)
              · refine zj_iconst 81 X (v := 0) dX5_ends_80 (by decide) rfl ?_
                simpa only [if_pos c21, if_neg c22] using J15
              · refine zj_iload_n 77 X 1 dX5_ends_76 rfl rfl ?_
                refine zj_goto 81 X dX5_ends_77 (by decide) ?_
                simpa only [if_pos c21, if_pos c22] using J15
        · refine zj_icmp_ne 66 80 X dX5_ends_63 (by decide) rfl (fun c23 => ?_) (fun c23 => ?_)
          · refine zj_iconst 81 X (v := 0) dX5_ends_80 (by decide) rfl ?_
            simpa only [if_neg c23] using J11
          · refine zj_aload_n 67 X 0 dX5_ends_66 rfl rfl ?_
            refine zg_RX5_23 70 X dX5_ends_67 rfl ?_
            refine zj_iload_n 71 X 2 dX5_ends_70 rfl rfl ?_
            refine zl_M_points 72 X (w := zmP w9 1) rfl (vp_in_iff.mpr (by decide)) dX5_ends_71 rfl ?_
            refine zj_iload_n 73 X 1 dX5_ends_72 rfl rfl ?_
            refine zj_icmp_ne 76 80 X dX5_ends_73 (by decide) rfl (fun c24 => ?_) (fun c24 => ?_)
            · refine zj_iconst 81 X (v := 0) dX5_ends_80 (by decide) rfl ?_
              simpa only [if_pos c23, if_neg c24] using J11
            · refine zj_iload_n 77 X 1 dX5_ends_76 rfl rfl ?_
              refine zj_goto 81 X dX5_ends_77 (by decide) ?_
              simpa only [if_pos c23, if_pos c24] using J11
      · refine zj_icmp_ne 66 80 X dX5_ends_63 (by decide) rfl (fun c25 => ?_) (fun c25 => ?_)
        · refine zj_iconst 81 X (v := 0) dX5_ends_80 (by decide) rfl ?_
          simpa only [if_neg c25] using J7
        · refine zj_aload_n 67 X 0 dX5_ends_66 rfl rfl ?_
          refine zg_RX5_23 70 X dX5_ends_67 rfl ?_
          refine zj_iload_n 71 X 2 dX5_ends_70 rfl rfl ?_
          refine zl_M_points 72 X (w := zmP w9 0) rfl (vp_in_iff.mpr (by decide)) dX5_ends_71 rfl ?_
          refine zj_iload_n 73 X 1 dX5_ends_72 rfl rfl ?_
          refine zj_icmp_ne 76 80 X dX5_ends_73 (by decide) rfl (fun c26 => ?_) (fun c26 => ?_)
          · refine zj_iconst 81 X (v := 0) dX5_ends_80 (by decide) rfl ?_
            simpa only [if_pos c25, if_neg c26] using J7
          · refine zj_iload_n 77 X 1 dX5_ends_76 rfl rfl ?_
            refine zj_goto 81 X dX5_ends_77 (by decide) ?_
            simpa only [if_pos c25, if_pos c26] using J7
    exact L3 (zf_X5_valueOf (zmP1 (zmI1 v 2 6) ((zmI v 18).toNatClampNeg) ((zmP v ((zmI v 18).toNatClampNeg)) + (if (zmI v 13) = 6 then zf_X5_worthOf (zmK v) else 0)))) (zmP1 (zmI1 v 2 6) ((zmI v 18).toNatClampNeg) ((zmP v ((zmI v 18).toNatClampNeg)) + (if (zmI v 13) = 6 then zf_X5_worthOf (zmK v) else 0))) hE hv
  · refine zj_icmp_ne 25 35 X dX5_ends_22 (by decide) rfl (fun c27 => ?_) (fun c27 => ?_)
    · refine zj_iconst 36 X (v := 0) dX5_ends_35 (by decide) rfl ?_
      simpa only [if_neg c27] using J2
    · refine zj_aload_n 26 X 0 dX5_ends_25 rfl rfl ?_
      refine zg_RX5_54 29 X (w := zmK v) rfl dX5_ends_26 rfl ?_
      refine zc_i 32 (zr_S (As := [.long (zmK v)]) (rest := [.int (zmP v ((zmI v 18).toNatClampNeg)), .int (zmI v 18), .ref (a 5)]) X (zc_X5_worthOf (l := l) (p0 := zmK v)) zw_X5_130 zn_X5_worthOf (zcR_of rfl) zs0 rfl (Nat.le_of_ble_eq_true rfl) dX5_ends_29) rfl ?_
      refine zj_goto 36 X dX5_ends_32 (by decide) ?_
      simpa only [if_pos c27] using J2
def zf_X5_value (v : zN) : Int32 × zN := if (zmI v 13) = (-1) then (0, zmI1 v 0 1) else (zf_X5_valueOf (zmI1 v 0 0), zmI1 v 0 0)
abbrev zR_X5_value : Room := { frames := 4, cells := 0, slots := 0, locals := 95 }
set_option maxHeartbeats 4000000 in
set_option maxRecDepth 100000 in
theorem zc_X5_value {l : Launch} {D : va_G} {C : ClassId × ClassId} {a : Nat → Nat} {v : zN} (hE : ¬ zmI v 13 = 6 → ¬ zmI v 13 = (-1) → vp_in (zmI v 12) 3) (hB : ¬ zmI v 13 = (-9)) : zk_Mm l yX5_value cX5_value 1 (some .int) zR_X5_value [.ref (a 0)] (zM C a v) D C (fun A => va_Qi (fun r u' => (r, u') = zf_X5_value v) (fun u' t => va_P D vwCl (zM C a u') t.heap) A) := by
  refine zk_mm (by decide) (Nat.le_of_ble_eq_true rfl) ?_
  intro p e s m below meth c A X Y hD hA
  generalize hv : zf_X5_value v = V
  unfold zf_X5_value at hv
  show zJ _ _ _ _ _ _ _ _ _ _ _ _ _ _ _ _ _ 0 [(0, .ref (a 0))] []
  refine zj_aload_n 1 X 0 dX5_value_0 rfl rfl ?_
  refine zj_aload_n 2 X 0 dX5_value_1 rfl rfl ?_
  refine zg_RX5_64 5 X (w := zmI v 13) rfl dX5_value_2 rfl ?_
  refine zj_iconst 6 X (v := (-1)) dX5_value_5 (by decide) rfl ?_
  refine zj_icmp_ne 9 13 X dX5_value_6 (by decide) rfl (fun c1 => ?_) (fun c1 => ?_)
  · rw [if_neg c1] at hv
    refine zj_iconst 14 X (v := 0) dX5_value_13 (by decide) rfl ?_
    refine zc_im 17 (Wd := zM C a) (zr_Vm (As := [.int (0)]) (rest := []) X (zc_X5_holds (l := l) (p0 := 0) (v := v)) zw_X5_100 zn_X5_holds (zcR_of rfl) zO_M (zD_M _ hD) hA rfl (Nat.le_of_ble_eq_true rfl) dX5_value_14) (zD_M _ hD) hA rfl ?_
    show zJ _ _ _ _ _ _ _ _ _ _ _ _ _ _ _ _ (zM C a (zmI1 v 0 0)) 17 [(0, .ref (a 0))] [.int (1)]
    refine zj_if_eq 20 27 X dX5_value_17 (by decide) rfl (fun c2 => absurd c2 (by decide)) (fun _ => ?_)
    refine zj_aload_n 21 X 0 dX5_value_20 rfl rfl ?_
    refine zc_i 24 (zr_V (As := []) (rest := []) X (zc_X5_valueOf (l := l) (v := zmI1 v 0 0) (hE := (fun h => hE h c1)) (hB := hB)) zw_X5_177 zn_X5_valueOf (zcR_of rfl) zO_M zsI rfl (Nat.le_of_ble_eq_true rfl) dX5_value_21) rfl ?_
    refine zj_goto 28 X dX5_value_24 (by decide) ?_
    exact ze_im (Wd := zM C a) (u := zmI1 v 0 0) X Y hv dX5_value_28
  · rw [if_pos c1] at hv
    refine zj_iconst 10 X (v := 1) dX5_value_9 (by decide) rfl ?_
    refine zj_goto 14 X dX5_value_10 (by decide) ?_
    refine zc_im 17 (Wd := zM C a) (zr_Vm (As := [.int (1)]) (rest := []) X (zc_X5_holds (l := l) (p0 := 1) (v := v)) zw_X5_100 zn_X5_holds (zcR_of rfl) zO_M (zD_M _ hD) hA rfl (Nat.le_of_ble_eq_true rfl) dX5_value_14) (zD_M _ hD) hA rfl ?_
    show zJ _ _ _ _ _ _ _ _ _ _ _ _ _ _ _ _ (zM C a (zmI1 v 0 1)) 17 [(0, .ref (a 0))] [.int (0)]
    refine zj_if_eq 20 27 X dX5_value_17 (by decide) rfl (fun _ => ?_) (fun c3 => absurd c3 (by decide))
    refine zj_iconst 28 X (v := 0) dX5_value_27 (by decide) rfl ?_
    exact ze_im (Wd := zM C a) (u := zmI1 v 0 1) X Y hv dX5_value_28
def zk_X5_wins_49 (v : zN) (x2 : Int32) : Int32 × zN := if (((zmT (zmT1 (zmP1 v x2.toNatClampNeg ((zmP v x2.toNatClampNeg) + (((zf_X5_worth (zmR v 0)) + (zf_X5_worth (zmR v 1))) + (zf_X5_worth (zmR v 2))))) x2.toNatClampNeg ((zmT v x2.toNatClampNeg) + 1)) 0) + (zmT (zmT1 (zmP1 v x2.toNatClampNeg ((zmP v x2.toNatClampNeg) + (((zf_X5_worth (zmR v 0)) + (zf_X5_worth (zmR v 1))) + (zf_X5_worth (zmR v 2))))) x2.toNatClampNeg ((zmT v x2.toNatClampNeg) + 1)) 1)) + (zmT (zmT1 (zmP1 v x2.toNatClampNeg ((zmP v x2.toNatClampNeg) + (((zf_X5_worth (zmR v 0)) + (zf_X5_worth (zmR v 1))) + (zf_X5_worth (zmR v 2))))) x2.toNatClampNeg ((zmT v x2.toNatClampNeg) + 1)) 2)) = 10 then (x2, (zf_X5_ends (zmI1 (zmI1 (zmI1 (zmT1 (zmP1 v x2.toNatClampNeg ((zmP v x2.toNatClampNeg) + (((zf_X5_worth (zmR v 0)) + (zf_X5_worth (zmR v 1))) + (zf_X5_worth (zmR v 2))))) x2.toNatClampNeg ((zmT v x2.toNatClampNeg) + 1)) 17 0) 18 x2) 3 x2))) else (x2, zmI1 (zmI1 (zmI1 (zmT1 (zmP1 v x2.toNatClampNeg ((zmP v x2.toNatClampNeg) + (((zf_X5_worth (zmR v 0)) + (zf_X5_worth (zmR v 1))) + (zf_X5_worth (zmR v 2))))) x2.toNatClampNeg ((zmT v x2.toNatClampNeg) + 1)) 17 0) 18 x2) 3 x2)
def zk_X5_wins_40 (v : zN) (x1 : Int32) : Int32 × zN := zk_X5_wins_49 v (((zmI v 18) + x1) - ((zmI v 18) + x1) / 3 * 3)
def zf_X5_wins (v : zN) : Int32 × zN := if (zf_X5_isOver v (zmR v 1) (zmR v 0)) = 0 then (if (zf_X5_isOver v (zmR v 2) (zmR v 0)) = 0 then zk_X5_wins_40 v 0 else zk_X5_wins_40 v 2) else (if (zf_X5_isOver v (zmR v 2) (zmR v 1)) = 0 then zk_X5_wins_40 v 1 else zk_X5_wins_40 v 2)
abbrev zR_X5_wins : Room := { frames := 5, cells := 0, slots := 0, locals := 117 }
set_option maxHeartbeats 4000000 in
set_option maxRecDepth 100000 in
theorem zc_X5_wins {l : Launch} {D : va_G} {C : ClassId × ClassId} {a : Nat → Nat} {v : zN} (hL : vp_in (zmI v 18) 3) (hE : ¬ zmI v 13 = 6 → vp_in (zmI v 12) 3) (hB : ¬ zmI v 13 = (-9)) : zk_Mm l yX5_wins cX5_wins 3 (some .int) zR_X5_wins [.ref (a 0)] (zM C a v) D C (fun A => va_Qi (fun r u' => (r, u') = zf_X5_wins v) (fun u' t => va_P D vwCl (zM C a u') t.heap) A) := by
  refine zk_mm (by decide) (Nat.le_of_ble_eq_true rfl) ?_
  intro p e s m below meth c A X Y hD hA
  generalize hv : zf_X5_wins v = V
  unfold zf_X5_wins at hv
  show zJ _ _ _ _ _ _ _ _ _ _ _ _ _ _ _ _ _ 0 [(0, .ref (a 0))] []
  refine zj_iconst 1 X (v := 0) dX5_wins_0 (by decide) rfl ?_
  refine zj_istore_n 2 X (lv1 := [(0, .ref (a 0)), (1, .int (0))]) [1, 0] dX5_wins_1 (by decide) rfl rfl ?_
  refine zj_iconst 3 X (v := 1) dX5_wins_2 (by decide) rfl ?_
  refine zj_istore_n 4 X (lv1 := [(0, .ref (a 0)), (1, .int (0)), (2, .int (1))]) [1, 2, 0] dX5_wins_3 (by decide) rfl rfl ?_
  refine zj_iload_n 5 X 2 dX5_wins_4 rfl rfl ?_
  refine zj_iconst 6 X (v := 3) dX5_wins_5 (by decide) rfl ?_
  refine zj_icmp_ge 9 40 X dX5_wins_6 (by decide) rfl (fun c1 => absurd c1 (by decide)) (fun _ => ?_)
  refine zj_aload_n 10 X 0 dX5_wins_9 rfl rfl ?_
  refine zj_aload_n 11 X 0 dX5_wins_10 rfl rfl ?_
  refine zg_RX5_20 14 X dX5_wins_11 rfl ?_
  refine zj_iload_n 15 X 2 dX5_wins_14 rfl rfl ?_
  refine zl_M_trick 16 X (w := zmR v 1) rfl (vp_in_iff.mpr (by decide)) dX5_wins_15 rfl ?_
  refine zj_aload_n 17 X 0 dX5_wins_16 rfl rfl ?_
  refine zg_RX5_20 20 X dX5_wins_17 rfl ?_
  refine zj_iload_n 21 X 1 dX5_wins_20 rfl rfl ?_
  refine zl_M_trick 22 X (w := zmR v 0) rfl (vp_in_iff.mpr (by decide)) dX5_wins_21 rfl ?_
  refine zc_i 25 (zr_V (As := [.int (zmR v 1), .int (zmR v 0)]) (rest := []) X (zc_X5_isOver (l := l) (p0 := zmR v 1) (p1 := zmR v 0) (v := v)) zw_X5_158 zn_X5_isOver (zcR_of rfl) zO_M zsI rfl (Nat.le_of_ble_eq_true rfl) dX5_wins_22) rfl ?_
  refine zj_if_eq 28 32 X dX5_wins_25 (by decide) rfl (fun c2 => ?_) (fun c2 => ?_)
  · rw [if_pos c2] at hv
    refine zj_iload_n 33 X 1 dX5_wins_32 rfl rfl ?_
    refine zj_istore_n 34 X (lv1 := [(0, .ref (a 0)), (1, .int (0)), (2, .int (1))]) [1, 0, 2] dX5_wins_33 (by decide) rfl rfl ?_
    refine zj_iinc 37 X (v := 2) (lv1 := [(0, .ref (a 0)), (1, .int (0)), (2, .int (2))]) 2 [1, 2, 0] dX5_wins_34 rfl (by decide) (by decide) rfl rfl ?_
    refine zj_goto 4 X dX5_wins_37 (by decide) ?_
    refine zj_iload_n 5 X 2 dX5_wins_4 rfl rfl ?_
    refine zj_iconst 6 X (v := 3) dX5_wins_5 (by decide) rfl ?_
    refine zj_icmp_ge 9 40 X dX5_wins_6 (by decide) rfl (fun c3 => absurd c3 (by decide)) (fun _ => ?_)
    refine zj_aload_n 10 X 0 dX5_wins_9 rfl rfl ?_
    refine zj_aload_n 11 X 0 dX5_wins_10 rfl rfl ?_
    refine zg_RX5_20 14 X dX5_wins_11 rfl ?_
    refine zj_iload_n 15 X 2 dX5_wins_14 rfl rfl ?_
    refine zl_M_trick 16 X (w := zmR v 2) rfl (vp_in_iff.mpr (by decide)) dX5_wins_15 rfl ?_
    refine zj_aload_n 17 X 0 dX5_wins_16 rfl rfl ?_
    refine zg_RX5_20 20 X dX5_wins_17 rfl ?_
    refine zj_iload_n 21 X 1 dX5_wins_20 rfl rfl ?_
    refine zl_M_trick 22 X (w := zmR v 0) rfl (vp_in_iff.mpr (by decide)) dX5_wins_21 rfl ?_
    refine zc_i 25 (zr_V (As := [.int (zmR v 2), .int (zmR v 0)]) (rest := []) X (zc_X5_isOver (l := l) (p0 := zmR v 2) (p1 := zmR v 0) (v := v)) zw_X5_158 zn_X5_isOver (zcR_of rfl) zO_M zsI rfl (Nat.le_of_ble_eq_true rfl) dX5_wins_22) rfl ?_
    refine zj_if_eq 28 32 X dX5_wins_25 (by decide) rfl (fun c4 => ?_) (fun c4 => ?_)
    · rw [if_pos c4] at hv
      refine zj_iload_n 33 X 1 dX5_wins_32 rfl rfl ?_
      refine zj_istore_n 34 X (lv1 := [(0, .ref (a 0)), (1, .int (0)), (2, .int (2))]) [1, 0, 2] dX5_wins_33 (by decide) rfl rfl ?_
      refine zj_iinc 37 X (v := 3) (lv1 := [(0, .ref (a 0)), (1, .int (0)), (2, .int (3))]) 2 [1, 2, 0] dX5_wins_34 rfl (by decide) (by decide) rfl rfl ?_
      refine zj_goto 4 X dX5_wins_37 (by decide) ?_
      refine zj_iload_n 5 X 2 dX5_wins_4 rfl rfl ?_
      refine zj_iconst 6 X (v := 3) dX5_wins_5 (by decide) rfl ?_
      refine zj_icmp_ge 9 40 X dX5_wins_6 (by decide) rfl (fun _ => ?_) (fun c5 => absurd c5 (by decide))
      refine zj_lv (lv1 := [(0, .ref (a 0)), (1, .int (0))]) [0, 1] rfl ?_
      have L6 : ∀ (x1 : Int32), (vp_in x1 3) → zk_X5_wins_40 v x1 = V → zJ p l e zR_X5_wins s m ([.ref (a 0)] : List Value).toArray below meth c 0 0 (MQ below (va_Qi (fun r u' => (r, u') = V) (fun u' t => va_P D vwCl (zM C a u') t.heap) A) ([.ref (a 0)] : List Value).toArray s 0 0 A) D (zk_Km A s) 3 (zM C a v) 40 [(0, .ref (a 0)), (1, .int (x1))] [] := by
        intro x1 hB1 hv
        unfold zk_X5_wins_40 at hv
        refine zj_aload_n 41 X 0 dX5_wins_40 rfl rfl ?_
        refine zg_RX5_117 44 X (w := zmI v 18) rfl dX5_wins_41 rfl ?_
        refine zj_iload_n 45 X 1 dX5_wins_44 rfl rfl ?_
        refine zj_iadd 46 X dX5_wins_45 rfl ?_
        refine zj_iconst 47 X (v := 3) dX5_wins_46 (by decide) rfl ?_
        refine zj_irem 48 X dX5_wins_47 (by decide) rfl ?_
        refine zj_istore_n 49 X (lv1 := [(0, .ref (a 0)), (1, .int (x1)), (2, .int (((zmI v 18) + x1) - ((zmI v 18) + x1) / 3 * 3))]) [1, 2, 0] dX5_wins_48 (by decide) rfl rfl ?_
        refine zj_lv (lv1 := [(0, .ref (a 0)), (2, .int (((zmI v 18) + x1) - ((zmI v 18) + x1) / 3 * 3))]) [0, 2] rfl ?_
        have L7 : ∀ (x2 : Int32), (vp_in x2 3) → zk_X5_wins_49 v x2 = V → zJ p l e zR_X5_wins s m ([.ref (a 0)] : List Value).toArray below meth c 0 0 (MQ below (va_Qi (fun r u' => (r, u') = V) (fun u' t => va_P D vwCl (zM C a u') t.heap) A) ([.ref (a 0)] : List Value).toArray s 0 0 A) D (zk_Km A s) 3 (zM C a v) 49 [(0, .ref (a 0)), (2, .int (x2))] [] := by
          intro x2 hW hv
          unfold zk_X5_wins_49 at hv
          refine zj_aload_n 50 X 0 dX5_wins_49 rfl rfl ?_
          refine zg_RX5_23 53 X dX5_wins_50 rfl ?_
          refine zj_iload_n 54 X 1 dX5_wins_53 rfl rfl ?_
          refine zj_dup2_11 55 X dX5_wins_54 rfl rfl rfl ?_
          refine zl_M_points 56 X (w := zmP v x2.toNatClampNeg) rfl hW dX5_wins_55 rfl ?_
          refine zj_aload_n 57 X 0 dX5_wins_56 rfl rfl ?_
          refine zg_RX5_20 60 X dX5_wins_57 rfl ?_
          refine zj_iconst 61 X (v := 0) dX5_wins_60 (by decide) rfl ?_
          refine zl_M_trick 62 X (w := zmR v 0) rfl (vp_in_iff.mpr (by decide)) dX5_wins_61 rfl ?_
          refine zc_i 65 (zr_S (As := [.int (zmR v 0)]) (rest := [.int (zmP v x2.toNatClampNeg), .int (x2), .ref (a 5)]) X (zc_X5_worth (l := l) (p0 := zmR v 0)) zw_X5_124 zn_X5_worth (zcR_of rfl) zs0 rfl (Nat.le_of_ble_eq_true rfl) dX5_wins_62) rfl ?_
          refine zj_aload_n 66 X 0 dX5_wins_65 rfl rfl ?_
          refine zg_RX5_20 69 X dX5_wins_66 rfl ?_
          refine zj_iconst 70 X (v := 1) dX5_wins_69 (by decide) rfl ?_
          refine zl_M_trick 71 X (w := zmR v 1) rfl (vp_in_iff.mpr (by decide)) dX5_wins_70 rfl ?_
          refine zc_i 74 (zr_S (As := [.int (zmR v 1)]) (rest := [.int (zf_X5_worth (zmR v 0)), .int (zmP v x2.toNatClampNeg), .int (x2), .ref (a 5)]) X (zc_X5_worth (l := l) (p0 := zmR v 1)) zw_X5_124 zn_X5_worth (zcR_of rfl) zs0 rfl (Nat.le_of_ble_eq_true rfl) dX5_wins_71) rfl ?_
          refine zj_iadd 75 X dX5_wins_74 rfl ?_
          refine zj_aload_n 76 X 0 dX5_wins_75 rfl rfl ?_
          refine zg_RX5_20 79 X dX5_wins_76 rfl ?_
          refine zj_iconst 80 X (v := 2) dX5_wins_79 (by decide) rfl ?_
          refine zl_M_trick 81 X (w := zmR v 2) rfl (vp_in_iff.mpr (by decide)) dX5_wins_80 rfl ?_
          refine zc_i 84 (zr_S (As := [.int (zmR v 2)]) (rest := [.int ((zf_X5_worth (zmR v 0)) + (zf_X5_worth (zmR v 1))), .int (zmP v x2.toNatClampNeg), .int (x2), .ref (a 5)]) X (zc_X5_worth (l := l) (p0 := zmR v 2)) zw_X5_124 zn_X5_worth (zcR_of rfl) zs0 rfl (Nat.le_of_ble_eq_true rfl) dX5_wins_81) rfl ?_
          refine zj_iadd 85 X dX5_wins_84 rfl ?_
          refine zj_iadd 86 X dX5_wins_85 rfl ?_
          refine zt_M_points 87 X (zD_M _ hD) hW dX5_wins_86 rfl ?_
          refine zj_aload_n 88 X 0 dX5_wins_87 rfl rfl ?_
          refine zg_RX5_26 91 X dX5_wins_88 rfl ?_
          refine zj_iload_n 92 X 1 dX5_wins_91 rfl rfl ?_
          refine zj_dup2_11 93 X dX5_wins_92 rfl rfl rfl ?_
          refine zl_M_tricks 94 X (w := zmT v x2.toNatClampNeg) rfl hW dX5_wins_93 rfl ?_
          refine zj_iconst 95 X (v := 1) dX5_wins_94 (by decide) rfl ?_
          refine zj_iadd 96 X dX5_wins_95 rfl ?_
          refine zt_M_tricks 97 X (zD_M _ hD) hW dX5_wins_96 rfl ?_
          refine zj_aload_n 98 X 0 dX5_wins_97 rfl rfl ?_
          refine zj_iconst 99 X (v := 0) dX5_wins_98 (by decide) rfl ?_
          refine zp_RX5_74 102 X (zD_M _ hD) dX5_wins_99 rfl ?_
          refine zj_aload_n 103 X 0 dX5_wins_102 rfl rfl ?_
          refine zj_iload_n 104 X 1 dX5_wins_103 rfl rfl ?_
          refine zp_RX5_117 107 X (zD_M _ hD) dX5_wins_104 rfl ?_
          refine zj_aload_n 108 X 0 dX5_wins_107 rfl rfl ?_
          refine zj_iload_n 109 X 1 dX5_wins_108 rfl rfl ?_
          refine zp_RX5_97 112 X (zD_M _ hD) dX5_wins_109 rfl ?_
          refine zj_aload_n 113 X 0 dX5_wins_112 rfl rfl ?_
          refine zg_RX5_26 116 X dX5_wins_113 rfl ?_
          refine zj_iconst 117 X (v := 0) dX5_wins_116 (by decide) rfl ?_
          refine zl_M_tricks 118 X (w := zmT (zmT1 (zmP1 v x2.toNatClampNeg ((zmP v x2.toNatClampNeg) + (((zf_X5_worth (zmR v 0)) + (zf_X5_worth (zmR v 1))) + (zf_X5_worth (zmR v 2))))) x2.toNatClampNeg ((zmT v x2.toNatClampNeg) + 1)) 0) rfl (vp_in_iff.mpr (by decide)) dX5_wins_117 rfl ?_
          refine zj_aload_n 119 X 0 dX5_wins_118 rfl rfl ?_
          refine zg_RX5_26 122 X dX5_wins_119 rfl ?_
          refine zj_iconst 123 X (v := 1) dX5_wins_122 (by decide) rfl ?_
          refine zl_M_tricks 124 X (w := zmT (zmT1 (zmP1 v x2.toNatClampNeg ((zmP v x2.toNatClampNeg) + (((zf_X5_worth (zmR v 0)) + (zf_X5_worth (zmR v 1))) + (zf_X5_worth (zmR v 2))))) x2.toNatClampNeg ((zmT v x2.toNatClampNeg) + 1)) 1) rfl (vp_in_iff.mpr (by decide)) dX5_wins_123 rfl ?_
          refine zj_iadd 125 X dX5_wins_124 rfl ?_
          refine zj_aload_n 126 X 0 dX5_wins_125 rfl rfl ?_
          refine zg_RX5_26 129 X dX5_wins_126 rfl ?_
          refine zj_iconst 130 X (v := 2) dX5_wins_129 (by decide) rfl ?_
          refine zl_M_tricks 131 X (w := zmT (zmT1 (zmP1 v x2.toNatClampNeg ((zmP v x2.toNatClampNeg) + (((zf_X5_worth (zmR v 0)) + (zf_X5_worth (zmR v 1))) + (zf_X5_worth (zmR v 2))))) x2.toNatClampNeg ((zmT v x2.toNatClampNeg) + 1)) 2) rfl (vp_in_iff.mpr (by decide)) dX5_wins_130 rfl ?_
          refine zj_iadd 132 X dX5_wins_131 rfl ?_
          refine zj_bipush 134 X (v := 10) dX5_wins_132 (by decide) rfl ?_
          refine zj_icmp_ne 137 141 X dX5_wins_134 (by decide) rfl (fun c8 => ?_) (fun c8 => ?_)
          · rw [if_neg c8] at hv
            refine zj_iload_n 142 X 1 dX5_wins_141 rfl rfl ?_
            exact ze_im (Wd := zM C a) (u := zmI1 (zmI1 (zmI1 (zmT1 (zmP1 v x2.toNatClampNeg ((zmP v x2.toNatClampNeg) + (((zf_X5_worth (zmR v 0)) + (zf_X5_worth (zmR v 1))) + (zf_X5_worth (zmR v 2))))) x2.toNatClampNeg ((zmT v x2.toNatClampNeg) + 1)) 17 0) 18 x2) 3 x2) X Y hv dX5_wins_142
          · rw [if_pos c8] at hv
            refine zj_aload_n 138 X 0 dX5_wins_137 rfl rfl ?_
            refine zc_vm 141 (Wd := zM C a) (zr_Vm (As := []) (rest := []) X (zc_X5_ends (l := l) (v := zmI1 (zmI1 (zmI1 (zmT1 (zmP1 v x2.toNatClampNeg ((zmP v x2.toNatClampNeg) + (((zf_X5_worth (zmR v 0)) + (zf_X5_worth (zmR v 1))) + (zf_X5_worth (zmR v 2))))) x2.toNatClampNeg ((zmT v x2.toNatClampNeg) + 1)) 17 0) 18 x2) 3 x2) (hL := hW) (hE := hE) (hB := hB)) zw_X5_161 zn_X5_ends (zcR_of rfl) zO_M (zD_M _ hD) hA rfl (Nat.le_of_ble_eq_true rfl) dX5_wins_138) (zD_M _ hD) hA rfl ?_
            refine zj_iload_n 142 X 1 dX5_wins_141 rfl rfl ?_
            exact ze_im (Wd := zM C a) (u := (zf_X5_ends (zmI1 (zmI1 (zmI1 (zmT1 (zmP1 v x2.toNatClampNeg ((zmP v x2.toNatClampNeg) + (((zf_X5_worth (zmR v 0)) + (zf_X5_worth (zmR v 1))) + (zf_X5_worth (zmR v 2))))) x2.toNatClampNeg ((zmT v x2.toNatClampNeg) + 1)) 17 0) 18 x2) 3 x2))) X Y hv dX5_wins_142
        exact L7 (((zmI v 18) + x1) - ((zmI v 18) + x1) / 3 * 3) (zmod3_in hL hB1) hv
      exact L6 0 (vp_in_iff.mpr (by decide)) hv
    · rw [if_neg c4] at hv
      refine zj_iload_n 29 X 2 dX5_wins_28 rfl rfl ?_
      refine zj_goto 33 X dX5_wins_29 (by decide) ?_
      refine zj_istore_n 34 X (lv1 := [(0, .ref (a 0)), (1, .int (2)), (2, .int (2))]) [1, 0, 2] dX5_wins_33 (by decide) rfl rfl ?_
      refine zj_iinc 37 X (v := 3) (lv1 := [(0, .ref (a 0)), (1, .int (2)), (2, .int (3))]) 2 [1, 2, 0] dX5_wins_34 rfl (by decide) (by decide) rfl rfl ?_
      refine zj_goto 4 X dX5_wins_37 (by decide) ?_
      refine zj_iload_n 5 X 2 dX5_wins_4 rfl rfl ?_
      refine zj_iconst 6 X (v := 3) dX5_wins_5 (by decide) rfl ?_
      refine zj_icmp_ge 9 40 X dX5_wins_6 (by decide) rfl (fun _ => ?_) (fun c9 => absurd c9 (by decide))
      refine zj_lv (lv1 := [(0, .ref (a 0)), (1, .int (2))]) [0, 1] rfl ?_
      have L10 : ∀ (x1 : Int32), (vp_in x1 3) → zk_X5_wins_40 v x1 = V → zJ p l e zR_X5_wins s m ([.ref (a 0)] : List Value).toArray below meth c 0 0 (MQ below (va_Qi (fun r u' => (r, u') = V) (fun u' t => va_P D vwCl (zM C a u') t.heap) A) ([.ref (a 0)] : List Value).toArray s 0 0 A) D (zk_Km A s) 3 (zM C a v) 40 [(0, .ref (a 0)), (1, .int (x1))] [] := by
        intro x1 hB1 hv
        unfold zk_X5_wins_40 at hv
        refine zj_aload_n 41 X 0 dX5_wins_40 rfl rfl ?_
        refine zg_RX5_117 44 X (w := zmI v 18) rfl dX5_wins_41 rfl ?_
        refine zj_iload_n 45 X 1 dX5_wins_44 rfl rfl ?_
        refine zj_iadd 46 X dX5_wins_45 rfl ?_
        refine zj_iconst 47 X (v := 3) dX5_wins_46 (by decide) rfl ?_
        refine zj_irem 48 X dX5_wins_47 (by decide) rfl ?_
        refine zj_istore_n 49 X (lv1 := [(0, .ref (a 0)), (1, .int (x1)), (2, .int (((zmI v 18) + x1) - ((zmI v 18) + x1) / 3 * 3))]) [1, 2, 0] dX5_wins_48 (by decide) rfl rfl ?_
        refine zj_lv (lv1 := [(0, .ref (a 0)), (2, .int (((zmI v 18) + x1) - ((zmI v 18) + x1) / 3 * 3))]) [0, 2] rfl ?_
        have L11 : ∀ (x2 : Int32), (vp_in x2 3) → zk_X5_wins_49 v x2 = V → zJ p l e zR_X5_wins s m ([.ref (a 0)] : List Value).toArray below meth c 0 0 (MQ below (va_Qi (fun r u' => (r, u') = V) (fun u' t => va_P D vwCl (zM C a u') t.heap) A) ([.ref (a 0)] : List Value).toArray s 0 0 A) D (zk_Km A s) 3 (zM C a v) 49 [(0, .ref (a 0)), (2, .int (x2))] [] := by
          intro x2 hW hv
          unfold zk_X5_wins_49 at hv
          refine zj_aload_n 50 X 0 dX5_wins_49 rfl rfl ?_
          refine zg_RX5_23 53 X dX5_wins_50 rfl ?_
          refine zj_iload_n 54 X 1 dX5_wins_53 rfl rfl ?_
          refine zj_dup2_11 55 X dX5_wins_54 rfl rfl rfl ?_
          refine zl_M_points 56 X (w := zmP v x2.toNatClampNeg) rfl hW dX5_wins_55 rfl ?_
          refine zj_aload_n 57 X 0 dX5_wins_56 rfl rfl ?_
          refine zg_RX5_20 60 X dX5_wins_57 rfl ?_
          refine zj_iconst 61 X (v := 0) dX5_wins_60 (by decide) rfl ?_
          refine zl_M_trick 62 X (w := zmR v 0) rfl (vp_in_iff.mpr (by decide)) dX5_wins_61 rfl ?_
          refine zc_i 65 (zr_S (As := [.int (zmR v 0)]) (rest := [.int (zmP v x2.toNatClampNeg), .int (x2), .ref (a 5)]) X (zc_X5_worth (l := l) (p0 := zmR v 0)) zw_X5_124 zn_X5_worth (zcR_of rfl) zs0 rfl (Nat.le_of_ble_eq_true rfl) dX5_wins_62) rfl ?_
          refine zj_aload_n 66 X 0 dX5_wins_65 rfl rfl ?_
          refine zg_RX5_20 69 X dX5_wins_66 rfl ?_
          refine zj_iconst 70 X (v := 1) dX5_wins_69 (by decide) rfl ?_
          refine zl_M_trick 71 X (w := zmR v 1) rfl (vp_in_iff.mpr (by decide)) dX5_wins_70 rfl ?_
          refine zc_i 74 (zr_S (As := [.int (zmR v 1)]) (rest := [.int (zf_X5_worth (zmR v 0)), .int (zmP v x2.toNatClampNeg), .int (x2), .ref (a 5)]) X (zc_X5_worth (l := l) (p0 := zmR v 1)) zw_X5_124 zn_X5_worth (zcR_of rfl) zs0 rfl (Nat.le_of_ble_eq_true rfl) dX5_wins_71) rfl ?_
          refine zj_iadd 75 X dX5_wins_74 rfl ?_
          refine zj_aload_n 76 X 0 dX5_wins_75 rfl rfl ?_
          refine zg_RX5_20 79 X dX5_wins_76 rfl ?_
          refine zj_iconst 80 X (v := 2) dX5_wins_79 (by decide) rfl ?_
          refine zl_M_trick 81 X (w := zmR v 2) rfl (vp_in_iff.mpr (by decide)) dX5_wins_80 rfl ?_
          refine zc_i 84 (zr_S (As := [.int (zmR v 2)]) (rest := [.int ((zf_X5_worth (zmR v 0)) + (zf_X5_worth (zmR v 1))), .int (zmP v x2.toNatClampNeg), .int (x2), .ref (a 5)]) X (zc_X5_worth (l := l) (p0 := zmR v 2)) zw_X5_124 zn_X5_worth (zcR_of rfl) zs0 rfl (Nat.le_of_ble_eq_true rfl) dX5_wins_81) rfl ?_
          refine zj_iadd 85 X dX5_wins_84 rfl ?_
          refine zj_iadd 86 X dX5_wins_85 rfl ?_
          refine zt_M_points 87 X (zD_M _ hD) hW dX5_wins_86 rfl ?_
          refine zj_aload_n 88 X 0 dX5_wins_87 rfl rfl ?_
          refine zg_RX5_26 91 X dX5_wins_88 rfl ?_
          refine zj_iload_n 92 X 1 dX5_wins_91 rfl rfl ?_
          refine zj_dup2_11 93 X dX5_wins_92 rfl rfl rfl ?_
          refine zl_M_tricks 94 X (w := zmT v x2.toNatClampNeg) rfl hW dX5_wins_93 rfl ?_
          refine zj_iconst 95 X (v := 1) dX5_wins_94 (by decide) rfl ?_
          refine zj_iadd 96 X dX5_wins_95 rfl ?_
          refine zt_M_tricks 97 X (zD_M _ hD) hW dX5_wins_96 rfl ?_
          refine zj_aload_n 98 X 0 dX5_wins_97 rfl rfl ?_
          refine zj_iconst 99 X (v := 0) dX5_wins_98 (by decide) rfl ?_
          refine zp_RX5_74 102 X (zD_M _ hD) dX5_wins_99 rfl ?_
          refine zj_aload_n 103 X 0 dX5_wins_102 rfl rfl ?_
          refine zj_iload_n 104 X 1 dX5_wins_103 rfl rfl ?_
          refine zp_RX5_117 107 X (zD_M _ hD) dX5_wins_104 rfl ?_
          refine zj_aload_n 108 X 0 dX5_wins_107 rfl rfl ?_
          refine zj_iload_n 109 X 1 dX5_wins_108 rfl rfl ?_
          refine zp_RX5_97 112 X (zD_M _ hD) dX5_wins_109 rfl ?_
          refine zj_aload_n 113 X 0 dX5_wins_112 rfl rfl ?_
          refine zg_RX5_26 116 X dX5_wins_113 rfl ?_
          refine zj_iconst 117 X (v := 0) dX5_wins_116 (by decide) rfl ?_
          refine zl_M_tricks 118 X (w := zmT (zmT1 (zmP1 v x2.toNatClampNeg ((zmP v x2.toNatClampNeg) + (((zf_X5_worth (zmR v 0)) + (zf_X5_worth (zmR v 1))) + (zf_X5_worth (zmR v 2))))) x2.toNatClampNeg ((zmT v x2.toNatClampNeg) + 1)) 0) rfl (vp_in_iff.mpr (by decide)) dX5_wins_117 rfl ?_
          refine zj_aload_n 119 X 0 dX5_wins_118 rfl rfl ?_
          refine zg_RX5_26 122 X dX5_wins_119 rfl ?_
          refine zj_iconst 123 X (v := 1) dX5_wins_122 (by decide) rfl ?_
          refine zl_M_tricks 124 X (w := zmT (zmT1 (zmP1 v x2.toNatClampNeg ((zmP v x2.toNatClampNeg) + (((zf_X5_worth (zmR v 0)) + (zf_X5_worth (zmR v 1))) + (zf_X5_worth (zmR v 2))))) x2.toNatClampNeg ((zmT v x2.toNatClampNeg) + 1)) 1) rfl (vp_in_iff.mpr (by decide)) dX5_wins_123 rfl ?_
          refine zj_iadd 125 X dX5_wins_124 rfl ?_
          refine zj_aload_n 126 X 0 dX5_wins_125 rfl rfl ?_
          refine zg_RX5_26 129 X dX5_wins_126 rfl ?_
          refine zj_iconst 130 X (v := 2) dX5_wins_129 (by decide) rfl ?_
          refine zl_M_tricks 131 X (w := zmT (zmT1 (zmP1 v x2.toNatClampNeg ((zmP v x2.toNatClampNeg) + (((zf_X5_worth (zmR v 0)) + (zf_X5_worth (zmR v 1))) + (zf_X5_worth (zmR v 2))))) x2.toNatClampNeg ((zmT v x2.toNatClampNeg) + 1)) 2) rfl (vp_in_iff.mpr (by decide)) dX5_wins_130 rfl ?_
          refine zj_iadd 132 X dX5_wins_131 rfl ?_
          refine zj_bipush 134 X (v := 10) dX5_wins_132 (by decide) rfl ?_
          refine zj_icmp_ne 137 141 X dX5_wins_134 (by decide) rfl (fun c12 => ?_) (fun c12 => ?_)
          · rw [if_neg c12] at hv
            refine zj_iload_n 142 X 1 dX5_wins_141 rfl rfl ?_
            exact ze_im (Wd := zM C a) (u := zmI1 (zmI1 (zmI1 (zmT1 (zmP1 v x2.toNatClampNeg ((zmP v x2.toNatClampNeg) + (((zf_X5_worth (zmR v 0)) + (zf_X5_worth (zmR v 1))) + (zf_X5_worth (zmR v 2))))) x2.toNatClampNeg ((zmT v x2.toNatClampNeg) + 1)) 17 0) 18 x2) 3 x2) X Y hv dX5_wins_142
          · rw [if_pos c12] at hv
            refine zj_aload_n 138 X 0 dX5_wins_137 rfl rfl ?_
            refine zc_vm 141 (Wd := zM C a) (zr_Vm (As := []) (rest := []) X (zc_X5_ends (l := l) (v := zmI1 (zmI1 (zmI1 (zmT1 (zmP1 v x2.toNatClampNeg ((zmP v x2.toNatClampNeg) + (((zf_X5_worth (zmR v 0)) + (zf_X5_worth (zmR v 1))) + (zf_X5_worth (zmR v 2))))) x2.toNatClampNeg ((zmT v x2.toNatClampNeg) + 1)) 17 0) 18 x2) 3 x2) (hL := hW) (hE := hE) (hB := hB)) zw_X5_161 zn_X5_ends (zcR_of rfl) zO_M (zD_M _ hD) hA rfl (Nat.le_of_ble_eq_true rfl) dX5_wins_138) (zD_M _ hD) hA rfl ?_
            refine zj_iload_n 142 X 1 dX5_wins_141 rfl rfl ?_
            exact ze_im (Wd := zM C a) (u := (zf_X5_ends (zmI1 (zmI1 (zmI1 (zmT1 (zmP1 v x2.toNatClampNeg ((zmP v x2.toNatClampNeg) + (((zf_X5_worth (zmR v 0)) + (zf_X5_worth (zmR v 1))) + (zf_X5_worth (zmR v 2))))) x2.toNatClampNeg ((zmT v x2.toNatClampNeg) + 1)) 17 0) 18 x2) 3 x2))) X Y hv dX5_wins_142
        exact L11 (((zmI v 18) + x1) - ((zmI v 18) + x1) / 3 * 3) (zmod3_in hL hB1) hv
      exact L10 2 (vp_in_iff.mpr (by decide)) hv
  · rw [if_neg c2] at hv
    refine zj_iload_n 29 X 2 dX5_wins_28 rfl rfl ?_
    refine zj_goto 33 X dX5_wins_29 (by decide) ?_
    refine zj_istore_n 34 X (lv1 := [(0, .ref (a 0)), (1, .int (1)), (2, .int (1))]) [1, 0, 2] dX5_wins_33 (by decide) rfl rfl ?_
    refine zj_iinc 37 X (v := 2) (lv1 := [(0, .ref (a 0)), (1, .int (1)), (2, .int (2))]) 2 [1, 2, 0] dX5_wins_34 rfl (by decide) (by decide) rfl rfl ?_
    refine zj_goto 4 X dX5_wins_37 (by decide) ?_
    refine zj_iload_n 5 X 2 dX5_wins_4 rfl rfl ?_
    refine zj_iconst 6 X (v := 3) dX5_wins_5 (by decide) rfl ?_
    refine zj_icmp_ge 9 40 X dX5_wins_6 (by decide) rfl (fun c13 => absurd c13 (by decide)) (fun _ => ?_)
    refine zj_aload_n 10 X 0 dX5_wins_9 rfl rfl ?_
    refine zj_aload_n 11 X 0 dX5_wins_10 rfl rfl ?_
    refine zg_RX5_20 14 X dX5_wins_11 rfl ?_
    refine zj_iload_n 15 X 2 dX5_wins_14 rfl rfl ?_
    refine zl_M_trick 16 X (w := zmR v 2) rfl (vp_in_iff.mpr (by decide)) dX5_wins_15 rfl ?_
    refine zj_aload_n 17 X 0 dX5_wins_16 rfl rfl ?_
    refine zg_RX5_20 20 X dX5_wins_17 rfl ?_
    refine zj_iload_n 21 X 1 dX5_wins_20 rfl rfl ?_
    refine zl_M_trick 22 X (w := zmR v 1) rfl (vp_in_iff.mpr (by decide)) dX5_wins_21 rfl ?_
    refine zc_i 25 (zr_V (As := [.int (zmR v 2), .int (zmR v 1)]) (rest := []) X (zc_X5_isOver (l := l) (p0 := zmR v 2) (p1 := zmR v 1) (v := v)) zw_X5_158 zn_X5_isOver (zcR_of rfl) zO_M zsI rfl (Nat.le_of_ble_eq_true rfl) dX5_wins_22) rfl ?_
    refine zj_if_eq 28 32 X dX5_wins_25 (by decide) rfl (fun c14 => ?_) (fun c14 => ?_)
    · rw [if_pos c14] at hv
      refine zj_iload_n 33 X 1 dX5_wins_32 rfl rfl ?_
      refine zj_istore_n 34 X (lv1 := [(0, .ref (a 0)), (1, .int (1)), (2, .int (2))]) [1, 0, 2] dX5_wins_33 (by decide) rfl rfl ?_
      refine zj_iinc 37 X (v := 3) (lv1 := [(0, .ref (a 0)), (1, .int (1)), (2, .int (3))]) 2 [1, 2, 0] dX5_wins_34 rfl (by decide) (by decide) rfl rfl ?_
      refine zj_goto 4 X dX5_wins_37 (by decide) ?_
      refine zj_iload_n 5 X 2 dX5_wins_4 rfl rfl ?_
      refine zj_iconst 6 X (v := 3) dX5_wins_5 (by decide) rfl ?_
      refine zj_icmp_ge 9 40 X dX5_wins_6 (by decide) rfl (fun _ => ?_) (fun c15 => absurd c15 (by decide))
      refine zj_lv (lv1 := [(0, .ref (a 0)), (1, .int (1))]) [0, 1] rfl ?_
      have L16 : ∀ (x1 : Int32), (vp_in x1 3) → zk_X5_wins_40 v x1 = V → zJ p l e zR_X5_wins s m ([.ref (a 0)] : List Value).toArray below meth c 0 0 (MQ below (va_Qi (fun r u' => (r, u') = V) (fun u' t => va_P D vwCl (zM C a u') t.heap) A) ([.ref (a 0)] : List Value).toArray s 0 0 A) D (zk_Km A s) 3 (zM C a v) 40 [(0, .ref (a 0)), (1, .int (x1))] [] := by
        intro x1 hB1 hv
        unfold zk_X5_wins_40 at hv
        refine zj_aload_n 41 X 0 dX5_wins_40 rfl rfl ?_
        refine zg_RX5_117 44 X (w := zmI v 18) rfl dX5_wins_41 rfl ?_
        refine zj_iload_n 45 X 1 dX5_wins_44 rfl rfl ?_
        refine zj_iadd 46 X dX5_wins_45 rfl ?_
        refine zj_iconst 47 X (v := 3) dX5_wins_46 (by decide) rfl ?_
        refine zj_irem 48 X dX5_wins_47 (by decide) rfl ?_
        refine zj_istore_n 49 X (lv1 := [(0, .ref (a 0)), (1, .int (x1)), (2, .int (((zmI v 18) + x1) - ((zmI v 18) + x1) / 3 * 3))]) [1, 2, 0] dX5_wins_48 (by decide) rfl rfl ?_
        refine zj_lv (lv1 := [(0, .ref (a 0)), (2, .int (((zmI v 18) + x1) - ((zmI v 18) + x1) / 3 * 3))]) [0, 2] rfl ?_
        have L17 : ∀ (x2 : Int32), (vp_in x2 3) → zk_X5_wins_49 v x2 = V → zJ p l e zR_X5_wins s m ([.ref (a 0)] : List Value).toArray below meth c 0 0 (MQ below (va_Qi (fun r u' => (r, u') = V) (fun u' t => va_P D vwCl (zM C a u') t.heap) A) ([.ref (a 0)] : List Value).toArray s 0 0 A) D (zk_Km A s) 3 (zM C a v) 49 [(0, .ref (a 0)), (2, .int (x2))] [] := by
          intro x2 hW hv
          unfold zk_X5_wins_49 at hv
          refine zj_aload_n 50 X 0 dX5_wins_49 rfl rfl ?_
          refine zg_RX5_23 53 X dX5_wins_50 rfl ?_
          refine zj_iload_n 54 X 1 dX5_wins_53 rfl rfl ?_
          refine zj_dup2_11 55 X dX5_wins_54 rfl rfl rfl ?_
          refine zl_M_points 56 X (w := zmP v x2.toNatClampNeg) rfl hW dX5_wins_55 rfl ?_
          refine zj_aload_n 57 X 0 dX5_wins_56 rfl rfl ?_
          refine zg_RX5_20 60 X dX5_wins_57 rfl ?_
          refine zj_iconst 61 X (v := 0) dX5_wins_60 (by decide) rfl ?_
          refine zl_M_trick 62 X (w := zmR v 0) rfl (vp_in_iff.mpr (by decide)) dX5_wins_61 rfl ?_
          refine zc_i 65 (zr_S (As := [.int (zmR v 0)]) (rest := [.int (zmP v x2.toNatClampNeg), .int (x2), .ref (a 5)]) X (zc_X5_worth (l := l) (p0 := zmR v 0)) zw_X5_124 zn_X5_worth (zcR_of rfl) zs0 rfl (Nat.le_of_ble_eq_true rfl) dX5_wins_62) rfl ?_
          refine zj_aload_n 66 X 0 dX5_wins_65 rfl rfl ?_
          refine zg_RX5_20 69 X dX5_wins_66 rfl ?_
          refine zj_iconst 70 X (v := 1) dX5_wins_69 (by decide) rfl ?_
          refine zl_M_trick 71 X (w := zmR v 1) rfl (vp_in_iff.mpr (by decide)) dX5_wins_70 rfl ?_
          refine zc_i 74 (zr_S (As := [.int (zmR v 1)]) (rest := [.int (zf_X5_worth (zmR v 0)), .int (zmP v x2.toNatClampNeg), .int (x2), .ref (a 5)]) X (zc_X5_worth (l := l) (p0 := zmR v 1)) zw_X5_124 zn_X5_worth (zcR_of rfl) zs0 rfl (Nat.le_of_ble_eq_true rfl) dX5_wins_71) rfl ?_
          refine zj_iadd 75 X dX5_wins_74 rfl ?_
          refine zj_aload_n 76 X 0 dX5_wins_75 rfl rfl ?_
          refine zg_RX5_20 79 X dX5_wins_76 rfl ?_
          refine zj_iconst 80 X (v := 2) dX5_wins_79 (by decide) rfl ?_
          refine zl_M_trick 81 X (w := zmR v 2) rfl (vp_in_iff.mpr (by decide)) dX5_wins_80 rfl ?_
          refine zc_i 84 (zr_S (As := [.int (zmR v 2)]) (rest := [.int ((zf_X5_worth (zmR v 0)) + (zf_X5_worth (zmR v 1))), .int (zmP v x2.toNatClampNeg), .int (x2), .ref (a 5)]) X (zc_X5_worth (l := l) (p0 := zmR v 2)) zw_X5_124 zn_X5_worth (zcR_of rfl) zs0 rfl (Nat.le_of_ble_eq_true rfl) dX5_wins_81) rfl ?_
          refine zj_iadd 85 X dX5_wins_84 rfl ?_
          refine zj_iadd 86 X dX5_wins_85 rfl ?_
          refine zt_M_points 87 X (zD_M _ hD) hW dX5_wins_86 rfl ?_
          refine zj_aload_n 88 X 0 dX5_wins_87 rfl rfl ?_
          refine zg_RX5_26 91 X dX5_wins_88 rfl ?_
          refine zj_iload_n 92 X 1 dX5_wins_91 rfl rfl ?_
          refine zj_dup2_11 93 X dX5_wins_92 rfl rfl rfl ?_
          refine zl_M_tricks 94 X (w := zmT v x2.toNatClampNeg) rfl hW dX5_wins_93 rfl ?_
          refine zj_iconst 95 X (v := 1) dX5_wins_94 (by decide) rfl ?_
          refine zj_iadd 96 X dX5_wins_95 rfl ?_
          refine zt_M_tricks 97 X (zD_M _ hD) hW dX5_wins_96 rfl ?_
          refine zj_aload_n 98 X 0 dX5_wins_97 rfl rfl ?_
          refine zj_iconst 99 X (v := 0) dX5_wins_98 (by decide) rfl ?_
          refine zp_RX5_74 102 X (zD_M _ hD) dX5_wins_99 rfl ?_
          refine zj_aload_n 103 X 0 dX5_wins_102 rfl rfl ?_
          refine zj_iload_n 104 X 1 dX5_wins_103 rfl rfl ?_
          refine zp_RX5_117 107 X (zD_M _ hD) dX5_wins_104 rfl ?_
          refine zj_aload_n 108 X 0 dX5_wins_107 rfl rfl ?_
          refine zj_iload_n 109 X 1 dX5_wins_108 rfl rfl ?_
          refine zp_RX5_97 112 X (zD_M _ hD) dX5_wins_109 rfl ?_
          refine zj_aload_n 113 X 0 dX5_wins_112 rfl rfl ?_
          refine zg_RX5_26 116 X dX5_wins_113 rfl ?_
          refine zj_iconst 117 X (v := 0) dX5_wins_116 (by decide) rfl ?_
          refine zl_M_tricks 118 X (w := zmT (zmT1 (zmP1 v x2.toNatClampNeg ((zmP v x2.toNatClampNeg) + (((zf_X5_worth (zmR v 0)) + (zf_X5_worth (zmR v 1))) + (zf_X5_worth (zmR v 2))))) x2.toNatClampNeg ((zmT v x2.toNatClampNeg) + 1)) 0) rfl (vp_in_iff.mpr (by decide)) dX5_wins_117 rfl ?_
          refine zj_aload_n 119 X 0 dX5_wins_118 rfl rfl ?_
          refine zg_RX5_26 122 X dX5_wins_119 rfl ?_
          refine zj_iconst 123 X (v := 1) dX5_wins_122 (by decide) rfl ?_
          refine zl_M_tricks 124 X (w := zmT (zmT1 (zmP1 v x2.toNatClampNeg ((zmP v x2.toNatClampNeg) + (((zf_X5_worth (zmR v 0)) + (zf_X5_worth (zmR v 1))) + (zf_X5_worth (zmR v 2))))) x2.toNatClampNeg ((zmT v x2.toNatClampNeg) + 1)) 1) rfl (vp_in_iff.mpr (by decide)) dX5_wins_123 rfl ?_
          refine zj_iadd 125 X dX5_wins_124 rfl ?_
          refine zj_aload_n 126 X 0 dX5_wins_125 rfl rfl ?_
          refine zg_RX5_26 129 X dX5_wins_126 rfl ?_
          refine zj_iconst 130 X (v := 2) dX5_wins_129 (by decide) rfl ?_
          refine zl_M_tricks 131 X (w := zmT (zmT1 (zmP1 v x2.toNatClampNeg ((zmP v x2.toNatClampNeg) + (((zf_X5_worth (zmR v 0)) + (zf_X5_worth (zmR v 1))) + (zf_X5_worth (zmR v 2))))) x2.toNatClampNeg ((zmT v x2.toNatClampNeg) + 1)) 2) rfl (vp_in_iff.mpr (by decide)) dX5_wins_130 rfl ?_
          refine zj_iadd 132 X dX5_wins_131 rfl ?_
          refine zj_bipush 134 X (v := 10) dX5_wins_132 (by decide) rfl ?_
          refine zj_icmp_ne 137 141 X dX5_wins_134 (by decide) rfl (fun c18 => ?_) (fun c18 => ?_)
          · rw [if_neg c18] at hv
            refine zj_iload_n 142 X 1 dX5_wins_141 rfl rfl ?_
            exact ze_im (Wd := zM C a) (u := zmI1 (zmI1 (zmI1 (zmT1 (zmP1 v x2.toNatClampNeg ((zmP v x2.toNatClampNeg) + (((zf_X5_worth (zmR v 0)) + (zf_X5_worth (zmR v 1))) + (zf_X5_worth (zmR v 2))))) x2.toNatClampNeg ((zmT v x2.toNatClampNeg) + 1)) 17 0) 18 x2) 3 x2) X Y hv dX5_wins_142
          · rw [if_pos c18] at hv
            refine zj_aload_n 138 X 0 dX5_wins_137 rfl rfl ?_
            refine zc_vm 141 (Wd := zM C a) (zr_Vm (As := []) (rest := []) X (zc_X5_ends (l := l) (v := zmI1 (zmI1 (zmI1 (zmT1 (zmP1 v x2.toNatClampNeg ((zmP v x2.toNatClampNeg) + (((zf_X5_worth (zmR v 0)) + (zf_X5_worth (zmR v 1))) + (zf_X5_worth (zmR v 2))))) x2.toNatClampNeg ((zmT v x2.toNatClampNeg) + 1)) 17 0) 18 x2) 3 x2) (hL := hW) (hE := hE) (hB := hB)) zw_X5_161 zn_X5_ends (zcR_of rfl) zO_M (zD_M _ hD) hA rfl (Nat.le_of_ble_eq_true rfl) dX5_wins_138) (zD_M _ hD) hA rfl ?_
            refine zj_iload_n 142 X 1 dX5_wins_141 rfl rfl ?_
            exact ze_im (Wd := zM C a) (u := (zf_X5_ends (zmI1 (zmI1 (zmI1 (zmT1 (zmP1 v x2.toNatClampNeg ((zmP v x2.toNatClampNeg) + (((zf_X5_worth (zmR v 0)) + (zf_X5_worth (zmR v 1))) + (zf_X5_worth (zmR v 2))))) x2.toNatClampNeg ((zmT v x2.toNatClampNeg) + 1)) 17 0) 18 x2) 3 x2))) X Y hv dX5_wins_142
        exact L17 (((zmI v 18) + x1) - ((zmI v 18) + x1) / 3 * 3) (zmod3_in hL hB1) hv
      exact L16 1 (vp_in_iff.mpr (by decide)) hv
    · rw [if_neg c14] at hv
      refine zj_iload_n 29 X 2 dX5_wins_28 rfl rfl ?_
      refine zj_goto 33 X dX5_wins_29 (by decide) ?_
      refine zj_istore_n 34 X (lv1 := [(0, .ref (a 0)), (1, .int (2)), (2, .int (2))]) [1, 0, 2] dX5_wins_33 (by decide) rfl rfl ?_
      refine zj_iinc 37 X (v := 3) (lv1 := [(0, .ref (a 0)), (1, .int (2)), (2, .int (3))]) 2 [1, 2, 0] dX5_wins_34 rfl (by decide) (by decide) rfl rfl ?_
      refine zj_goto 4 X dX5_wins_37 (by decide) ?_
      refine zj_iload_n 5 X 2 dX5_wins_4 rfl rfl ?_
      refine zj_iconst 6 X (v := 3) dX5_wins_5 (by decide) rfl ?_
      refine zj_icmp_ge 9 40 X dX5_wins_6 (by decide) rfl (fun _ => ?_) (fun c19 => absurd c19 (by decide))
      refine zj_lv (lv1 := [(0, .ref (a 0)), (1, .int (2))]) [0, 1] rfl ?_
      have L20 : ∀ (x1 : Int32), (vp_in x1 3) → zk_X5_wins_40 v x1 = V → zJ p l e zR_X5_wins s m ([.ref (a 0)] : List Value).toArray below meth c 0 0 (MQ below (va_Qi (fun r u' => (r, u') = V) (fun u' t => va_P D vwCl (zM C a u') t.heap) A) ([.ref (a 0)] : List Value).toArray s 0 0 A) D (zk_Km A s) 3 (zM C a v) 40 [(0, .ref (a 0)), (1, .int (x1))] [] := by
        intro x1 hB1 hv
        unfold zk_X5_wins_40 at hv
        refine zj_aload_n 41 X 0 dX5_wins_40 rfl rfl ?_
        refine zg_RX5_117 44 X (w := zmI v 18) rfl dX5_wins_41 rfl ?_
        refine zj_iload_n 45 X 1 dX5_wins_44 rfl rfl ?_
        refine zj_iadd 46 X dX5_wins_45 rfl ?_
        refine zj_iconst 47 X (v := 3) dX5_wins_46 (by decide) rfl ?_
        refine zj_irem 48 X dX5_wins_47 (by decide) rfl ?_
        refine zj_istore_n 49 X (lv1 := [(0, .ref (a 0)), (1, .int (x1)), (2, .int (((zmI v 18) + x1) - ((zmI v 18) + x1) / 3 * 3))]) [1, 2, 0] dX5_wins_48 (by decide) rfl rfl ?_
        refine zj_lv (lv1 := [(0, .ref (a 0)), (2, .int (((zmI v 18) + x1) - ((zmI v 18) + x1) / 3 * 3))]) [0, 2] rfl ?_
        have L21 : ∀ (x2 : Int32), (vp_in x2 3) → zk_X5_wins_49 v x2 = V → zJ p l e zR_X5_wins s m ([.ref (a 0)] : List Value).toArray below meth c 0 0 (MQ below (va_Qi (fun r u' => (r, u') = V) (fun u' t => va_P D vwCl (zM C a u') t.heap) A) ([.ref (a 0)] : List Value).toArray s 0 0 A) D (zk_Km A s) 3 (zM C a v) 49 [(0, .ref (a 0)), (2, .int (x2))] [] := by
          intro x2 hW hv
          unfold zk_X5_wins_49 at hv
          refine zj_aload_n 50 X 0 dX5_wins_49 rfl rfl ?_
          refine zg_RX5_23 53 X dX5_wins_50 rfl ?_
          refine zj_iload_n 54 X 1 dX5_wins_53 rfl rfl ?_
          refine zj_dup2_11 55 X dX5_wins_54 rfl rfl rfl ?_
          refine zl_M_points 56 X (w := zmP v x2.toNatClampNeg) rfl hW dX5_wins_55 rfl ?_
          refine zj_aload_n 57 X 0 dX5_wins_56 rfl rfl ?_
          refine zg_RX5_20 60 X dX5_wins_57 rfl ?_
          refine zj_iconst 61 X (v := 0) dX5_wins_60 (by decide) rfl ?_
          refine zl_M_trick 62 X (w := zmR v 0) rfl (vp_in_iff.mpr (by decide)) dX5_wins_61 rfl ?_
          refine zc_i 65 (zr_S (As := [.int (zmR v 0)]) (rest := [.int (zmP v x2.toNatClampNeg), .int (x2), .ref (a 5)]) X (zc_X5_worth (l := l) (p0 := zmR v 0)) zw_X5_124 zn_X5_worth (zcR_of rfl) zs0 rfl (Nat.le_of_ble_eq_true rfl) dX5_wins_62) rfl ?_
          refine zj_aload_n 66 X 0 dX5_wins_65 rfl rfl ?_
          refine zg_RX5_20 69 X dX5_wins_66 rfl ?_
          refine zj_iconst 70 X (v := 1) dX5_wins_69 (by decide) rfl ?_
          refine zl_M_trick 71 X (w := zmR v 1) rfl (vp_in_iff.mpr (by decide)) dX5_wins_70 rfl ?_
          refine zc_i 74 (zr_S (As := [.int (zmR v 1)]) (rest := [.int (zf_X5_worth (zmR v 0)), .int (zmP v x2.toNatClampNeg), .int (x2), .ref (a 5)]) X (zc_X5_worth (l := l) (p0 := zmR v 1)) zw_X5_124 zn_X5_worth (zcR_of rfl) zs0 rfl (Nat.le_of_ble_eq_true rfl) dX5_wins_71) rfl ?_
          refine zj_iadd 75 X dX5_wins_74 rfl ?_
          refine zj_aload_n 76 X 0 dX5_wins_75 rfl rfl ?_
          refine zg_RX5_20 79 X dX5_wins_76 rfl ?_
          refine zj_iconst 80 X (v := 2) dX5_wins_79 (by decide) rfl ?_
          refine zl_M_trick 81 X (w := zmR v 2) rfl (vp_in_iff.mpr (by decide)) dX5_wins_80 rfl ?_
          refine zc_i 84 (zr_S (As := [.int (zmR v 2)]) (rest := [.int ((zf_X5_worth (zmR v 0)) + (zf_X5_worth (zmR v 1))), .int (zmP v x2.toNatClampNeg), .int (x2), .ref (a 5)]) X (zc_X5_worth (l := l) (p0 := zmR v 2)) zw_X5_124 zn_X5_worth (zcR_of rfl) zs0 rfl (Nat.le_of_ble_eq_true rfl) dX5_wins_81) rfl ?_
          refine zj_iadd 85 X dX5_wins_84 rfl ?_
          refine zj_iadd 86 X dX5_wins_85 rfl ?_
          refine zt_M_points 87 X (zD_M _ hD) hW dX5_wins_86 rfl ?_
          refine zj_aload_n 88 X 0 dX5_wins_87 rfl rfl ?_
          refine zg_RX5_26 91 X dX5_wins_88 rfl ?_
          refine zj_iload_n 92 X 1 dX5_wins_91 rfl rfl ?_
          refine zj_dup2_11 93 X dX5_wins_92 rfl rfl rfl ?_
          refine zl_M_tricks 94 X (w := zmT v x2.toNatClampNeg) rfl hW dX5_wins_93 rfl ?_
          refine zj_iconst 95 X (v := 1) dX5_wins_94 (by decide) rfl ?_
          refine zj_iadd 96 X dX5_wins_95 rfl ?_
          refine zt_M_tricks 97 X (zD_M _ hD) hW dX5_wins_96 rfl ?_
          refine zj_aload_n 98 X 0 dX5_wins_97 rfl rfl ?_
          refine zj_iconst 99 X (v := 0) dX5_wins_98 (by decide) rfl ?_
          refine zp_RX5_74 102 X (zD_M _ hD) dX5_wins_99 rfl ?_
          refine zj_aload_n 103 X 0 dX5_wins_102 rfl rfl ?_
          refine zj_iload_n 104 X 1 dX5_wins_103 rfl rfl ?_
          refine zp_RX5_117 107 X (zD_M _ hD) dX5_wins_104 rfl ?_
          refine zj_aload_n 108 X 0 dX5_wins_107 rfl rfl ?_
          refine zj_iload_n 109 X 1 dX5_wins_108 rfl rfl ?_
          refine zp_RX5_97 112 X (zD_M _ hD) dX5_wins_109 rfl ?_
          refine zj_aload_n 113 X 0 dX5_wins_112 rfl rfl ?_
          refine zg_RX5_26 116 X dX5_wins_113 rfl ?_
          refine zj_iconst 117 X (v := 0) dX5_wins_116 (by decide) rfl ?_
          refine zl_M_tricks 118 X (w := zmT (zmT1 (zmP1 v x2.toNatClampNeg ((zmP v x2.toNatClampNeg) + (((zf_X5_worth (zmR v 0)) + (zf_X5_worth (zmR v 1))) + (zf_X5_worth (zmR v 2))))) x2.toNatClampNeg ((zmT v x2.toNatClampNeg) + 1)) 0) rfl (vp_in_iff.mpr (by decide)) dX5_wins_117 rfl ?_
          refine zj_aload_n 119 X 0 dX5_wins_118 rfl rfl ?_
          refine zg_RX5_26 122 X dX5_wins_119 rfl ?_
          refine zj_iconst 123 X (v := 1) dX5_wins_122 (by decide) rfl ?_
          refine zl_M_tricks 124 X (w := zmT (zmT1 (zmP1 v x2.toNatClampNeg ((zmP v x2.toNatClampNeg) + (((zf_X5_worth (zmR v 0)) + (zf_X5_worth (zmR v 1))) + (zf_X5_worth (zmR v 2))))) x2.toNatClampNeg ((zmT v x2.toNatClampNeg) + 1)) 1) rfl (vp_in_iff.mpr (by decide)) dX5_wins_123 rfl ?_
          refine zj_iadd 125 X dX5_wins_124 rfl ?_
          refine zj_aload_n 126 X 0 dX5_wins_125 rfl rfl ?_
          refine zg_RX5_26 129 X dX5_wins_126 rfl ?_
          refine zj_iconst 130 X (v := 2) dX5_wins_129 (by decide) rfl ?_
          refine zl_M_tricks 131 X (w := zmT (zmT1 (zmP1 v x2.toNatClampNeg ((zmP v x2.toNatClampNeg) + (((zf_X5_worth (zmR v 0)) + (zf_X5_worth (zmR v 1))) + (zf_X5_worth (zmR v 2))))) x2.toNatClampNeg ((zmT v x2.toNatClampNeg) + 1)) 2) rfl (vp_in_iff.mpr (by decide)) dX5_wins_130 rfl ?_
          refine zj_iadd 132 X dX5_wins_131 rfl ?_
          refine zj_bipush 134 X (v := 10) dX5_wins_132 (by decide) rfl ?_
          refine zj_icmp_ne 137 141 X dX5_wins_134 (by decide) rfl (fun c22 => ?_) (fun c22 => ?_)
          · rw [if_neg c22] at hv
            refine zj_iload_n 142 X 1 dX5_wins_141 rfl rfl ?_
            exact ze_im (Wd := zM C a) (u := zmI1 (zmI1 (zmI1 (zmT1 (zmP1 v x2.toNatClampNeg ((zmP v x2.toNatClampNeg) + (((zf_X5_worth (zmR v 0)) + (zf_X5_worth (zmR v 1))) + (zf_X5_worth (zmR v 2))))) x2.toNatClampNeg ((zmT v x2.toNatClampNeg) + 1)) 17 0) 18 x2) 3 x2) X Y hv dX5_wins_142
          · rw [if_pos c22] at hv
            refine zj_aload_n 138 X 0 dX5_wins_137 rfl rfl ?_
            refine zc_vm 141 (Wd := zM C a) (zr_Vm (As := []) (rest := []) X (zc_X5_ends (l := l) (v := zmI1 (zmI1 (zmI1 (zmT1 (zmP1 v x2.toNatClampNeg ((zmP v x2.toNatClampNeg) + (((zf_X5_worth (zmR v 0)) + (zf_X5_worth (zmR v 1))) + (zf_X5_worth (zmR v 2))))) x2.toNatClampNeg ((zmT v x2.toNatClampNeg) + 1)) 17 0) 18 x2) 3 x2) (hL := hW) (hE := hE) (hB := hB)) zw_X5_161 zn_X5_ends (zcR_of rfl) zO_M (zD_M _ hD) hA rfl (Nat.le_of_ble_eq_true rfl) dX5_wins_138) (zD_M _ hD) hA rfl ?_
            refine zj_iload_n 142 X 1 dX5_wins_141 rfl rfl ?_
            exact ze_im (Wd := zM C a) (u := (zf_X5_ends (zmI1 (zmI1 (zmI1 (zmT1 (zmP1 v x2.toNatClampNeg ((zmP v x2.toNatClampNeg) + (((zf_X5_worth (zmR v 0)) + (zf_X5_worth (zmR v 1))) + (zf_X5_worth (zmR v 2))))) x2.toNatClampNeg ((zmT v x2.toNatClampNeg) + 1)) 17 0) 18 x2) 3 x2))) X Y hv dX5_wins_142
        exact L21 (((zmI v 18) + x1) - ((zmI v 18) + x1) / 3 * 3) (zmod3_in hL hB1) hv
      exact L20 2 (vp_in_iff.mpr (by decide)) hv
def zf_X5_play (v : zN) (p0 : Int32) : Int32 × zN := if (zf_X5_in p0 0 31) = 0 then (0, zmI1 v 0 1) else (if (zmI v 2) = 5 then (if (zf_X5_has (zf_X5_open v) p0) = 0 then (0, zmI1 v 0 2) else (if 3 ≤ ((zmI v 17) + 1) then ((zf_X5_wins (zmI1 (zmR1 (zmL1 (zmC1 (zmI1 v 0 0) ((zmI v 3).toNatClampNeg) ((zmC v ((zmI v 3).toNatClampNeg)) &&& ((1 <<< (p0.toInt64 &&& 63)) ^^^ (-1)))) ((zmI v 3).toNatClampNeg) ((zmL v ((zmI v 3).toNatClampNeg)) ||| (1 <<< (p0.toInt64 &&& 63)))) ((zmI v 17).toNatClampNeg) p0) 17 ((zmI v 17) + 1))).1, (zf_X5_wins (zmI1 (zmR1 (zmL1 (zmC1 (zmI1 v 0 0) ((zmI v 3).toNatClampNeg) ((zmC v ((zmI v 3).toNatClampNeg)) &&& ((1 <<< (p0.toInt64 &&& 63)) ^^^ (-1)))) ((zmI v 3).toNatClampNeg) ((zmL v ((zmI v 3).toNatClampNeg)) ||| (1 <<< (p0.toInt64 &&& 63)))) ((zmI v 17).toNatClampNeg) p0) 17 ((zmI v 17) + 1))).2) else ((-1), zmI1 (zmI1 (zmR1 (zmL1 (zmC1 (zmI1 v 0 0) ((zmI v 3).toNatClampNeg) ((zmC v ((zmI v 3).toNatClampNeg)) &&& ((1 <<< (p0.toInt64 &&& 63)) ^^^ (-1)))) ((zmI v 3).toNatClampNeg) ((zmL v ((zmI v 3).toNatClampNeg)) ||| (1 <<< (p0.toInt64 &&& 63)))) ((zmI v 17).toNatClampNeg) p0) 17 ((zmI v 17) + 1)) 3 (((zmI v 3) + 1) - ((zmI v 3) + 1) / 3 * 3)))) else (0, zmI1 v 0 2))
abbrev zR_X5_play : Room := { frames := 6, cells := 0, slots := 0, locals := 139 }
set_option maxHeartbeats 4000000 in
set_option maxRecDepth 100000 in
theorem zc_X5_play {l : Launch} {D : va_G} {C : ClassId × ClassId} {a : Nat → Nat} {v : zN} {p0 : Int32} (hT : vp_in (zmI v 3) 3) (hL : vp_in (zmI v 18) 3) (hI : vp_in (zmI v 17) 3) (hE : zmI v 2 = 5 → ¬ zmI v 13 = 6 → vp_in (zmI v 12) 3) (hB : ¬ zmI v 13 = (-9)) : zk_Mm l yX5_play cX5_play 2 (some .int) zR_X5_play [.ref (a 0), .int (p0)] (zM C a v) D C (fun A => va_Qi (fun r u' => (r, u') = zf_X5_play v p0) (fun u' t => va_P D vwCl (zM C a u') t.heap) A) := by
  refine zk_mm (by decide) (Nat.le_of_ble_eq_true rfl) ?_
  intro p e s m below meth c A X Y hD hA
  generalize hv : zf_X5_play v p0 = V
  unfold zf_X5_play at hv
  show zJ _ _ _ _ _ _ _ _ _ _ _ _ _ _ _ _ _ 0 [(0, .ref (a 0)), (1, .int (p0))] []
  refine zj_aload_n 1 X 0 dX5_play_0 rfl rfl ?_
  refine zj_iload_n 2 X 1 dX5_play_1 rfl rfl ?_
  refine zj_iconst 3 X (v := 0) dX5_play_2 (by decide) rfl ?_
  refine zj_bipush 5 X (v := 31) dX5_play_3 (by decide) rfl ?_
  refine zc_i 8 (zr_S (As := [.int (p0), .int (0), .int (31)]) (rest := [.ref (a 0)]) X (zc_X5_in (l := l) (p0 := p0) (p1 := 0) (p2 := 31)) zw_X5_104 zn_X5_in (zcR_of rfl) zs0 rfl (Nat.le_of_ble_eq_true rfl) dX5_play_5) rfl ?_
  refine zj_if_ne 11 15 X dX5_play_8 (by decide) rfl (fun c1 => ?_) (fun c1 => ?_)
  · rw [if_neg c1] at hv
    refine zj_aload_n 16 X 0 dX5_play_15 rfl rfl ?_
    refine zg_RX5_94 19 X (w := zmI v 2) rfl dX5_play_16 rfl ?_
    refine zj_iconst 20 X (v := 5) dX5_play_19 (by decide) rfl ?_
    refine zj_icmp_ne 23 34 X dX5_play_20 (by decide) rfl (fun c2 => ?_) (fun c2 => ?_)
    · rw [if_neg c2] at hv
      refine zj_iconst 35 X (v := 2) dX5_play_34 (by decide) rfl ?_
      refine zj_goto 39 X dX5_play_35 (by decide) ?_
      refine zc_im 42 (Wd := zM C a) (zr_Vm (As := [.int (2)]) (rest := []) X (zc_X5_holds (l := l) (p0 := 2) (v := v)) zw_X5_100 zn_X5_holds (zcR_of rfl) zO_M (zD_M _ hD) hA rfl (Nat.le_of_ble_eq_true rfl) dX5_play_39) (zD_M _ hD) hA rfl ?_
      show zJ _ _ _ _ _ _ _ _ _ _ _ _ _ _ _ _ (zM C a (zmI1 v 0 2)) 42 [(0, .ref (a 0)), (1, .int (p0))] [.int (0)]
      refine zj_if_ne 45 47 X dX5_play_42 (by decide) rfl (fun c3 => absurd c3 (by decide)) (fun _ => ?_)
      refine zj_iconst 46 X (v := 0) dX5_play_45 (by decide) rfl ?_
      exact ze_im (Wd := zM C a) (u := zmI1 v 0 2) X Y hv dX5_play_46
    · rw [if_pos c2] at hv
      refine zj_aload_n 24 X 0 dX5_play_23 rfl rfl ?_
      refine zc_l 27 (zr_V (As := []) (rest := [.ref (a 0)]) X (zc_X5_open (l := l) (v := v) (hT := hT)) zw_X5_148 zn_X5_open (zcR_of rfl) zO_M zsI rfl (Nat.le_of_ble_eq_true rfl) dX5_play_24) rfl ?_
      refine zj_iload_n 28 X 1 dX5_play_27 rfl rfl ?_
      refine zc_i 31 (zr_S (As := [.long (zf_X5_open v), .int (p0)]) (rest := [.ref (a 0)]) X (zc_X5_has (l := l) (p0 := zf_X5_open v) (p1 := p0)) zw_X5_120 zn_X5_has (zcR_of rfl) zs0 rfl (Nat.le_of_ble_eq_true rfl) dX5_play_28) rfl ?_
      refine zj_if_ne 34 38 X dX5_play_31 (by decide) rfl (fun c4 => ?_) (fun c4 => ?_)
      · rw [if_neg c4] at hv
        refine zj_iconst 39 X (v := 0) dX5_play_38 (by decide) rfl ?_
        refine zc_im 42 (Wd := zM C a) (zr_Vm (As := [.int (0)]) (rest := []) X (zc_X5_holds (l := l) (p0 := 0) (v := v)) zw_X5_100 zn_X5_holds (zcR_of rfl) zO_M (zD_M _ hD) hA rfl (Nat.le_of_ble_eq_true rfl) dX5_play_39) (zD_M _ hD) hA rfl ?_
        show zJ _ _ _ _ _ _ _ _ _ _ _ _ _ _ _ _ (zM C a (zmI1 v 0 0)) 42 [(0, .ref (a 0)), (1, .int (p0))] [.int (1)]
        refine zj_if_ne 45 47 X dX5_play_42 (by decide) rfl (fun _ => ?_) (fun c5 => absurd c5 (by decide))
        refine zj_aload_n 48 X 0 dX5_play_47 rfl rfl ?_
        refine zg_RX5_13 51 X dX5_play_48 rfl ?_
        refine zj_aload_n 52 X 0 dX5_play_51 rfl rfl ?_
        refine zg_RX5_97 55 X (w := zmI v 3) rfl dX5_play_52 rfl ?_
        refine zj_dup2_11 56 X dX5_play_55 rfl rfl rfl ?_
        refine zl_M_hands 57 X (w := zmC v ((zmI v 3).toNatClampNeg)) rfl hT dX5_play_56 rfl ?_
        refine zj_lconst 58 X (v := 1) dX5_play_57 (by decide) rfl ?_
        refine zj_iload_n 59 X 1 dX5_play_58 rfl rfl ?_
        refine zj_lshl 60 X dX5_play_59 rfl rfl ?_
        refine zj_ldc2 63 X (v := (-1)) (zG_t 763 (by decide +kernel) rfl) dX5_play_60 rfl ?_
        refine zj_lxor 64 X dX5_play_63 rfl ?_
        refine zj_land 65 X dX5_play_64 rfl ?_
        refine zt_M_hands 66 X (zD_M _ hD) hT dX5_play_65 rfl ?_
        refine zj_aload_n 67 X 0 dX5_play_66 rfl rfl ?_
        refine zg_RX5_17 70 X dX5_play_67 rfl ?_
        refine zj_aload_n 71 X 0 dX5_play_70 rfl rfl ?_
        refine zg_RX5_97 74 X (w := zmI v 3) rfl dX5_play_71 rfl ?_
        refine zj_dup2_11 75 X dX5_play_74 rfl rfl rfl ?_
        refine zl_M_played 76 X (w := zmL v ((zmI v 3).toNatClampNeg)) rfl hT dX5_play_75 rfl ?_
        refine zj_lconst 77 X (v := 1) dX5_play_76 (by decide) rfl ?_
        refine zj_iload_n 78 X 1 dX5_play_77 rfl rfl ?_
        refine zj_lshl 79 X dX5_play_78 rfl rfl ?_
        refine zj_lor 80 X dX5_play_79 rfl ?_
        refine zt_M_played 81 X (zD_M _ hD) hT dX5_play_80 rfl ?_
        refine zj_aload_n 82 X 0 dX5_play_81 rfl rfl ?_
        refine zg_RX5_20 85 X dX5_play_82 rfl ?_
        refine zj_aload_n 86 X 0 dX5_play_85 rfl rfl ?_
        refine zg_RX5_74 89 X (w := zmI v 17) rfl dX5_play_86 rfl ?_
        refine zj_iload_n 90 X 1 dX5_play_89 rfl rfl ?_
        refine zt_M_trick 91 X (zD_M _ hD) hI dX5_play_90 rfl ?_
        refine zj_aload_n 92 X 0 dX5_play_91 rfl rfl ?_
        refine zj_dup 93 X dX5_play_92 rfl rfl ?_
        refine zg_RX5_74 96 X (w := zmI v 17) rfl dX5_play_93 rfl ?_
        refine zj_iconst 97 X (v := 1) dX5_play_96 (by decide) rfl ?_
        refine zj_iadd 98 X dX5_play_97 rfl ?_
        refine zp_RX5_74 101 X (zD_M _ hD) dX5_play_98 rfl ?_
        refine zj_aload_n 102 X 0 dX5_play_101 rfl rfl ?_
        refine zg_RX5_74 105 X (w := (zmI v 17) + 1) rfl dX5_play_102 rfl ?_
        refine zj_iconst 106 X (v := 3) dX5_play_105 (by decide) rfl ?_
        refine zj_icmp_ge 109 123 X dX5_play_106 (by decide) rfl (fun c6 => ?_) (fun c6 => ?_)
        · rw [if_pos c6] at hv
          refine zj_aload_n 124 X 0 dX5_play_123 rfl rfl ?_
          refine zc_im 127 (Wd := zM C a) (zr_Vm (As := []) (rest := []) X (zc_X5_wins (l := l) (v := zmI1 (zmR1 (zmL1 (zmC1 (zmI1 v 0 0) ((zmI v 3).toNatClampNeg) ((zmC v ((zmI v 3).toNatClampNeg)) &&& ((1 <<< (p0.toInt64 &&& 63)) ^^^ (-1)))) ((zmI v 3).toNatClampNeg) ((zmL v ((zmI v 3).toNatClampNeg)) ||| (1 <<< (p0.toInt64 &&& 63)))) ((zmI v 17).toNatClampNeg) p0) 17 ((zmI v 17) + 1)) (hL := hL) (hE := (hE c2)) (hB := hB)) zw_X5_155 zn_X5_wins (zcR_of rfl) zO_M (zD_M _ hD) hA rfl (Nat.le_of_ble_eq_true rfl) dX5_play_124) (zD_M _ hD) hA rfl ?_
          exact ze_im (Wd := zM C a) (u := (zf_X5_wins (zmI1 (zmR1 (zmL1 (zmC1 (zmI1 v 0 0) ((zmI v 3).toNatClampNeg) ((zmC v ((zmI v 3).toNatClampNeg)) &&& ((1 <<< (p0.toInt64 &&& 63)) ^^^ (-1)))) ((zmI v 3).toNatClampNeg) ((zmL v ((zmI v 3).toNatClampNeg)) ||| (1 <<< (p0.toInt64 &&& 63)))) ((zmI v 17).toNatClampNeg) p0) 17 ((zmI v 17) + 1))).2) X Y hv dX5_play_127
        · rw [if_neg c6] at hv
          refine zj_aload_n 110 X 0 dX5_play_109 rfl rfl ?_
          refine zj_aload_n 111 X 0 dX5_play_110 rfl rfl ?_
          refine zg_RX5_97 114 X (w := zmI v 3) rfl dX5_play_111 rfl ?_
          refine zj_iconst 115 X (v := 1) dX5_play_114 (by decide) rfl ?_
          refine zj_iadd 116 X dX5_play_115 rfl ?_
          refine zj_iconst 117 X (v := 3) dX5_play_116 (by decide) rfl ?_
          refine zj_irem 118 X dX5_play_117 (by decide) rfl ?_
          refine zp_RX5_97 121 X (zD_M _ hD) dX5_play_118 rfl ?_
          refine zj_iconst 122 X (v := (-1)) dX5_play_121 (by decide) rfl ?_
          exact ze_im (Wd := zM C a) (u := zmI1 (zmI1 (zmR1 (zmL1 (zmC1 (zmI1 v 0 0) ((zmI v 3).toNatClampNeg) ((zmC v ((zmI v 3).toNatClampNeg)) &&& ((1 <<< (p0.toInt64 &&& 63)) ^^^ (-1)))) ((zmI v 3).toNatClampNeg) ((zmL v ((zmI v 3).toNatClampNeg)) ||| (1 <<< (p0.toInt64 &&& 63)))) ((zmI v 17).toNatClampNeg) p0) 17 ((zmI v 17) + 1)) 3 (((zmI v 3) + 1) - ((zmI v 3) + 1) / 3 * 3)) X Y hv dX5_play_122
      · rw [if_pos c4] at hv
        refine zj_iconst 35 X (v := 2) dX5_play_34 (by decide) rfl ?_
        refine zj_goto 39 X dX5_play_35 (by decide) ?_
        refine zc_im 42 (Wd := zM C a) (zr_Vm (As := [.int (2)]) (rest := []) X (zc_X5_holds (l := l) (p0 := 2) (v := v)) zw_X5_100 zn_X5_holds (zcR_of rfl) zO_M (zD_M _ hD) hA rfl (Nat.le_of_ble_eq_true rfl) dX5_play_39) (zD_M _ hD) hA rfl ?_
        show zJ _ _ _ _ _ _ _ _ _ _ _ _ _ _ _ _ (zM C a (zmI1 v 0 2)) 42 [(0, .ref (a 0)), (1, .int (p0))] [.int (0)]
        refine zj_if_ne 45 47 X dX5_play_42 (by decide) rfl (fun c7 => absurd c7 (by decide)) (fun _ => ?_)
        refine zj_iconst 46 X (v := 0) dX5_play_45 (by decide) rfl ?_
        exact ze_im (Wd := zM C a) (u := zmI1 v 0 2) X Y hv dX5_play_46
  · rw [if_pos c1] at hv
    refine zj_iconst 12 X (v := 1) dX5_play_11 (by decide) rfl ?_
    refine zj_goto 39 X dX5_play_12 (by decide) ?_
    refine zc_im 42 (Wd := zM C a) (zr_Vm (As := [.int (1)]) (rest := []) X (zc_X5_holds (l := l) (p0 := 1) (v := v)) zw_X5_100 zn_X5_holds (zcR_of rfl) zO_M (zD_M _ hD) hA rfl (Nat.le_of_ble_eq_true rfl) dX5_play_39) (zD_M _ hD) hA rfl ?_
    show zJ _ _ _ _ _ _ _ _ _ _ _ _ _ _ _ _ (zM C a (zmI1 v 0 1)) 42 [(0, .ref (a 0)), (1, .int (p0))] [.int (0)]
    refine zj_if_ne 45 47 X dX5_play_42 (by decide) rfl (fun c8 => absurd c8 (by decide)) (fun _ => ?_)
    refine zj_iconst 46 X (v := 0) dX5_play_45 (by decide) rfl ?_
    exact ze_im (Wd := zM C a) (u := zmI1 v 0 1) X Y hv dX5_play_46
def zl_X5_shuffles_mix (v : zN) (p0 : Int32) : Nat → Int64 → zN → zN
  | 0, x2, w9 => w9
  | k + 1, x2, w9 => zl_X5_shuffles_mix v p0 k (((x2 * 1103515245) + 12345) - ((x2 * 1103515245) + 12345) / 2147483648 * 2147483648) (zmD1 (zmD1 w9 (k + 1) (zmD w9 (((((((x2 * 1103515245) + 12345) - ((x2 * 1103515245) + 12345) / 2147483648 * 2147483648) / 65536) - ((((x2 * 1103515245) + 12345) - ((x2 * 1103515245) + 12345) / 2147483648 * 2147483648) / 65536) / (((nI (k + 1)) + 1).toInt64) * (((nI (k + 1)) + 1).toInt64)).toInt32).toNatClampNeg))) (((((((x2 * 1103515245) + 12345) - ((x2 * 1103515245) + 12345) / 2147483648 * 2147483648) / 65536) - ((((x2 * 1103515245) + 12345) - ((x2 * 1103515245) + 12345) / 2147483648 * 2147483648) / 65536) / (((nI (k + 1)) + 1).toInt64) * (((nI (k + 1)) + 1).toInt64)).toInt32).toNatClampNeg) (zmD w9 (k + 1)))
def zl_X5_shuffles_fill (v : zN) (p0 : Int32) : Nat → Nat → zN → zN
  | 0, i, w9 => zl_X5_shuffles_mix v p0 31 p0.toInt64 w9
  | k + 1, i, w9 => zl_X5_shuffles_fill v p0 k (i + 1) (zmD1 w9 i (nI i))
def zf_X5_shuffles (v : zN) (p0 : Int32) : zN := zl_X5_shuffles_fill v p0 32 0 v
abbrev zR_X5_shuffles : Room := { frames := 0, cells := 0, slots := 0, locals := 0 }
set_option maxHeartbeats 4000000 in
set_option maxRecDepth 100000 in
theorem zc_X5_shuffles {l : Launch} {D : va_G} {C : ClassId × ClassId} {a : Nat → Nat} {v : zN} {p0 : Int32} (hp : 0 ≤ p0.toInt) : zk_Mm l yX5_shuffles cX5_shuffles 7 none zR_X5_shuffles [.ref (a 0), .int (p0)] (zM C a v) D C (fun A => va_Qv (fun u' => u' = zf_X5_shuffles v p0) (fun u' t => va_P D vwCl (zM C a u') t.heap) A) := by
  refine zk_mm (by decide) (Nat.le_of_ble_eq_true rfl) ?_
  intro p e s m below meth c A X Y hD hA
  generalize hv : zf_X5_shuffles v p0 = V
  unfold zf_X5_shuffles at hv
  show zJ _ _ _ _ _ _ _ _ _ _ _ _ _ _ _ _ _ 0 [(0, .ref (a 0)), (1, .int (p0))] []
  refine zj_iconst 1 X (v := 0) dX5_shuffles_0 (by decide) rfl ?_
  refine zj_istore_n 2 X (lv1 := [(0, .ref (a 0)), (1, .int (p0)), (2, .int (0))]) [1, 2, 0] dX5_shuffles_1 (by decide) rfl rfl ?_
  have L1 : ∀ (k i : Nat)  (w9 : zN), i + k = 32 → zl_X5_shuffles_fill v p0 k i w9 = V → zJ p l e zR_X5_shuffles s m ([.ref (a 0), .int (p0)] : List Value).toArray below meth c 0 0 (MQ below (va_Qv (fun u' => u' = V) (fun u' t => va_P D vwCl (zM C a u') t.heap) A) ([.ref (a 0), .int (p0)] : List Value).toArray s 0 0 A) D (zk_Km A s) 7 (zM C a w9) 2 [(0, .ref (a 0)), (1, .int (p0)), (2, .int (nI i))] [] := by
    intro k
    induction k with
    | zero =>
      intro i w9 h1 hv
      rw [zl_X5_shuffles_fill] at hv
      refine zj_iload_n 3 X 2 dX5_shuffles_2 rfl rfl ?_
      refine zj_bipush 5 X (v := 32) dX5_shuffles_3 (by decide) rfl ?_
      refine zj_icmp_ge 8 21 X dX5_shuffles_5 (by decide) rfl (fun _ => ?_) (fun c2 => absurd (zge0 (N := 32) (by rfl) (by omega)) c2)
      refine zj_iload_n 22 X 1 dX5_shuffles_21 rfl rfl ?_
      refine zj_i2l 23 X dX5_shuffles_22 rfl rfl ?_
      refine zj_lstore_n 24 X (lv1 := [(0, .ref (a 0)), (1, .int (p0)), (2, .long (p0.toInt64))]) [1, 2, 0] dX5_shuffles_23 (by decide) rfl rfl ?_
      refine zj_bipush 26 X (v := 31) dX5_shuffles_24 (by decide) rfl ?_
      refine zj_istore 28 X (lv1 := [(0, .ref (a 0)), (1, .int (p0)), (2, .long (p0.toInt64)), (4, .int (31))]) [1, 2, 3, 0] dX5_shuffles_26 (by decide) rfl rfl ?_
      have L3 : ∀ (k : Nat) (x2 : Int64) (w9 : zN), k ≤ 31 →  (hs : zs_ok x2) →zl_X5_shuffles_mix v p0 k x2 w9 = V → zJ p l e zR_X5_shuffles s m ([.ref (a 0), .int (p0)] : List Value).toArray below meth c 0 0 (MQ below (va_Qv (fun u' => u' = V) (fun u' t => va_P D vwCl (zM C a u') t.heap) A) ([.ref (a 0), .int (p0)] : List Value).toArray s 0 0 A) D (zk_Km A s) 7 (zM C a w9) 28 [(0, .ref (a 0)), (1, .int (p0)), (2, .long (x2)), (4, .int (nI k))] [] := by
        intro k
        induction k with
        | zero =>
          intro x2 w9 h1 hs hv
          rw [zl_X5_shuffles_mix] at hv
          refine zj_iload 30 X 3 dX5_shuffles_28 rfl rfl ?_
          refine zj_if_le 33 99 X dX5_shuffles_30 (by decide) rfl (fun _ => ?_) (fun c4 => absurd (by decide) c4)
          exact ze_vm (Wd := zM C a) (u := w9) X Y hv dX5_shuffles_99
        | succ k ih =>
          intro x2 w9 h1 hs hv
          rw [zl_X5_shuffles_mix] at hv
          refine zj_iload 30 X 3 dX5_shuffles_28 rfl rfl ?_
          refine zj_if_le 33 99 X dX5_shuffles_30 (by decide) rfl (fun c5 => absurd c5 (nI_nle (by omega) (by omega))) (fun _ => ?_)
          refine zj_lload_n 34 X 2 dX5_shuffles_33 rfl rfl ?_
          refine zj_ldc2 37 X (v := 1103515245) (zG_t 614 (by decide +kernel) rfl) dX5_shuffles_34 rfl ?_
          refine zj_lmul 38 X dX5_shuffles_37 rfl ?_
          refine zj_ldc2 41 X (v := 12345) (zG_t 615 (by decide +kernel) rfl) dX5_shuffles_38 rfl ?_
          refine zj_ladd 42 X dX5_shuffles_41 rfl ?_
          refine zj_ldc2 45 X (v := 2147483648) (zG_t 616 (by decide +kernel) rfl) dX5_shuffles_42 rfl ?_
          refine zj_lrem 46 X dX5_shuffles_45 (by decide) rfl ?_
          refine zj_lstore_n 47 X (lv1 := [(0, .ref (a 0)), (1, .int (p0)), (2, .long (((x2 * 1103515245) + 12345) - ((x2 * 1103515245) + 12345) / 2147483648 * 2147483648)), (4, .int (nI (k + 1)))]) [1, 2, 0, 3] dX5_shuffles_46 (by decide) rfl rfl ?_
          refine zj_lload_n 48 X 2 dX5_shuffles_47 rfl rfl ?_
          refine zj_ldc2 51 X (v := 65536) (zG_t 617 (by decide +kernel) rfl) dX5_shuffles_48 rfl ?_
          refine zj_ldiv 52 X dX5_shuffles_51 (by decide) rfl ?_
          refine zj_iload 54 X 3 dX5_shuffles_52 rfl rfl ?_
          refine zj_iconst 55 X (v := 1) dX5_shuffles_54 (by decide) rfl ?_
          refine zj_iadd 56 X dX5_shuffles_55 rfl ?_
          refine zj_i2l 57 X dX5_shuffles_56 rfl rfl ?_
          refine zj_lrem 58 X dX5_shuffles_57 (zsh_ne (by omega)) rfl ?_
          refine zj_l2i 59 X dX5_shuffles_58 rfl rfl ?_
          refine zj_istore 61 X (lv1 := [(0, .ref (a 0)), (1, .int (p0)), (2, .long (((x2 * 1103515245) + 12345) - ((x2 * 1103515245) + 12345) / 2147483648 * 2147483648)), (4, .int (nI (k + 1))), (5, .int ((((((x2 * 1103515245) + 12345) - ((x2 * 1103515245) + 12345) / 2147483648 * 2147483648) / 65536) - ((((x2 * 1103515245) + 12345) - ((x2 * 1103515245) + 12345) / 2147483648 * 2147483648) / 65536) / (((nI (k + 1)) + 1).toInt64) * (((nI (k + 1)) + 1).toInt64)).toInt32))]) [1, 2, 3, 4, 0] dX5_shuffles_59 (by decide) rfl rfl ?_
          refine zj_aload_n 62 X 0 dX5_shuffles_61 rfl rfl ?_
          refine zg_RX5_7 65 X dX5_shuffles_62 rfl ?_
          refine zj_iload 67 X 3 dX5_shuffles_65 rfl rfl ?_
          refine zl_M_deck 68 X (w := zmD w9 (k + 1)) (by rw [nI_clamp (by omega)]) (vp_in_nI (by omega) (by omega)) dX5_shuffles_67 rfl ?_
          refine zj_istore 70 X (lv1 := [(0, .ref (a 0)), (1, .int (p0)), (2, .long (((x2 * 1103515245) + 12345) - ((x2 * 1103515245) + 12345) / 2147483648 * 2147483648)), (4, .int (nI (k + 1))), (5, .int ((((((x2 * 1103515245) + 12345) - ((x2 * 1103515245) + 12345) / 2147483648 * 2147483648) / 65536) - ((((x2 * 1103515245) + 12345) - ((x2 * 1103515245) + 12345) / 2147483648 * 2147483648) / 65536) / (((nI (k + 1)) + 1).toInt64) * (((nI (k + 1)) + 1).toInt64)).toInt32)), (6, .int (zmD w9 (k + 1)))]) [1, 2, 3, 4, 5, 0] dX5_shuffles_68 (by decide) rfl rfl ?_
          refine zj_aload_n 71 X 0 dX5_shuffles_70 rfl rfl ?_
          refine zg_RX5_7 74 X dX5_shuffles_71 rfl ?_
          refine zj_iload 76 X 3 dX5_shuffles_74 rfl rfl ?_
          refine zj_aload_n 77 X 0 dX5_shuffles_76 rfl rfl ?_
          refine zg_RX5_7 80 X dX5_shuffles_77 rfl ?_
          refine zj_iload 82 X 4 dX5_shuffles_80 rfl rfl ?_
          refine zl_M_deck 83 X (w := zmD w9 (((((((x2 * 1103515245) + 12345) - ((x2 * 1103515245) + 12345) / 2147483648 * 2147483648) / 65536) - ((((x2 * 1103515245) + 12345) - ((x2 * 1103515245) + 12345) / 2147483648 * 2147483648) / 65536) / (((nI (k + 1)) + 1).toInt64) * (((nI (k + 1)) + 1).toInt64)).toInt32).toNatClampNeg)) rfl (zsm_in hs (by omega)) dX5_shuffles_82 rfl ?_
          refine zt_M_deck 84 X (zD_M _ hD) (vp_in_nI (by omega) (by omega)) dX5_shuffles_83 rfl ?_
          rw [nI_clamp (by omega : (k + 1) < 2147483648)]
          refine zj_aload_n 85 X 0 dX5_shuffles_84 rfl rfl ?_
          refine zg_RX5_7 88 X dX5_shuffles_85 rfl ?_
          refine zj_iload 90 X 4 dX5_shuffles_88 rfl rfl ?_
          refine zj_iload 92 X 5 dX5_shuffles_90 rfl rfl ?_
          refine zt_M_deck 93 X (zD_M _ hD) (zsm_in hs (by omega)) dX5_shuffles_92 rfl ?_
          refine zj_iinc 96 X (v := nI k) (lv1 := [(0, .ref (a 0)), (1, .int (p0)), (2, .long (((x2 * 1103515245) + 12345) - ((x2 * 1103515245) + 12345) / 2147483648 * 2147483648)), (4, .int (nI k)), (5, .int ((((((x2 * 1103515245) + 12345) - ((x2 * 1103515245) + 12345) / 2147483648 * 2147483648) / 65536) - ((((x2 * 1103515245) + 12345) - ((x2 * 1103515245) + 12345) / 2147483648 * 2147483648) / 65536) / (((nI (k + 1)) + 1).toInt64) * (((nI (k + 1)) + 1).toInt64)).toInt32)), (6, .int (zmD w9 (k + 1)))]) 3 [1, 2, 3, 0, 4, 5] dX5_shuffles_93 rfl (zdec _) (by decide) rfl rfl ?_
          refine zj_goto 28 X dX5_shuffles_96 (by decide) ?_
          refine zj_lv (lv1 := [(0, .ref (a 0)), (1, .int (p0)), (2, .long (((x2 * 1103515245) + 12345) - ((x2 * 1103515245) + 12345) / 2147483648 * 2147483648)), (4, .int (nI k))]) [0, 1, 2, 3] rfl ?_
          exact ih (((x2 * 1103515245) + 12345) - ((x2 * 1103515245) + 12345) / 2147483648 * 2147483648) (zmD1 (zmD1 w9 (k + 1) (zmD w9 (((((((x2 * 1103515245) + 12345) - ((x2 * 1103515245) + 12345) / 2147483648 * 2147483648) / 65536) - ((((x2 * 1103515245) + 12345) - ((x2 * 1103515245) + 12345) / 2147483648 * 2147483648) / 65536) / (((nI (k + 1)) + 1).toInt64) * (((nI (k + 1)) + 1).toInt64)).toInt32).toNatClampNeg))) (((((((x2 * 1103515245) + 12345) - ((x2 * 1103515245) + 12345) / 2147483648 * 2147483648) / 65536) - ((((x2 * 1103515245) + 12345) - ((x2 * 1103515245) + 12345) / 2147483648 * 2147483648) / 65536) / (((nI (k + 1)) + 1).toInt64) * (((nI (k + 1)) + 1).toInt64)).toInt32).toNatClampNeg) (zmD w9 (k + 1))) (by omega) (zs_step hs) hv
      exact L3 31 p0.toInt64 w9 (by decide) (zs_start hp) hv
    | succ k ih =>
      intro i w9 h1 hv
      rw [zl_X5_shuffles_fill] at hv
      refine zj_iload_n 3 X 2 dX5_shuffles_2 rfl rfl ?_
      refine zj_bipush 5 X (v := 32) dX5_shuffles_3 (by decide) rfl ?_
      refine zj_icmp_ge 8 21 X dX5_shuffles_5 (by decide) rfl (fun c6 => absurd c6 (zge (N := 32) (by rfl) (by omega) (by decide))) (fun _ => ?_)
      refine zj_aload_n 9 X 0 dX5_shuffles_8 rfl rfl ?_
      refine zg_RX5_7 12 X dX5_shuffles_9 rfl ?_
      refine zj_iload_n 13 X 2 dX5_shuffles_12 rfl rfl ?_
      refine zj_iload_n 14 X 2 dX5_shuffles_13 rfl rfl ?_
      refine zt_M_deck 15 X (zD_M _ hD) (vp_in_nI (by omega) (by omega)) dX5_shuffles_14 rfl ?_
      rw [nI_clamp (by omega : i < 2147483648)]
      refine zj_iinc 18 X (v := nI (i + 1)) (lv1 := [(0, .ref (a 0)), (1, .int (p0)), (2, .int (nI (i + 1)))]) 2 [1, 2, 0] dX5_shuffles_15 rfl (zinc _) (by decide) rfl rfl ?_
      refine zj_goto 2 X dX5_shuffles_18 (by decide) ?_
      exact ih (i + 1)  (zmD1 w9 i (nI i)) (by omega)  hv
  exact L1 32 0 v (by decide)  hv
def zl_X5_begins_in2 (v : zN) (p0 : Int32) : Nat → Nat → zN → zN
  | 0, i, w9 => (zf_X5_turns (zmI1 (zmI1 (zmI1 (zmI1 (zmI1 (zmI1 (zmI1 (zmI1 (zmI1 w9 11 0) 12 (-1)) 13 (-1)) 14 0) 15 0) 17 0) 10 0) 9 (zf_X5_forehand (zmI1 (zmI1 (zmI1 (zmI1 (zmI1 (zmI1 (zmI1 w9 11 0) 12 (-1)) 13 (-1)) 14 0) 15 0) 17 0) 10 0))) 8 (((zf_X5_forehand (zmI1 (zmI1 (zmI1 (zmI1 (zmI1 (zmI1 (zmI1 w9 11 0) 12 (-1)) 13 (-1)) 14 0) 15 0) 17 0) 10 0)) + 1) - ((zf_X5_forehand (zmI1 (zmI1 (zmI1 (zmI1 (zmI1 (zmI1 (zmI1 w9 11 0) 12 (-1)) 13 (-1)) 14 0) 15 0) 17 0) 10 0)) + 1) / 3 * 3)) 0 (((zf_X5_forehand (zmI1 (zmI1 (zmI1 (zmI1 (zmI1 (zmI1 (zmI1 w9 11 0) 12 (-1)) 13 (-1)) 14 0) 15 0) 17 0) 10 0)) + 1) - ((zf_X5_forehand (zmI1 (zmI1 (zmI1 (zmI1 (zmI1 (zmI1 (zmI1 w9 11 0) 12 (-1)) 13 (-1)) 14 0) 15 0) 17 0) 10 0)) + 1) / 3 * 3))
  | k + 1, i, w9 => zl_X5_begins_in2 v p0 k (i + 1) (zmC1 w9 2 ((zmC w9 2) ||| (1 <<< ((zmD w9 i).toInt64 &&& 63))))
def zl_X5_begins_in1 (v : zN) (p0 : Int32) : Nat → Nat → zN → zN
  | 0, i, w9 => zl_X5_begins_in2 v p0 10 20 (zmT1 (zmP1 (zmL1 (zmC1 w9 2 0) 2 0) 2 0) 2 0)
  | k + 1, i, w9 => zl_X5_begins_in1 v p0 k (i + 1) (zmC1 w9 1 ((zmC w9 1) ||| (1 <<< ((zmD w9 i).toInt64 &&& 63))))
def zl_X5_begins_in0 (v : zN) (p0 : Int32) : Nat → Nat → zN → zN
  | 0, i, w9 => zl_X5_begins_in1 v p0 10 10 (zmT1 (zmP1 (zmL1 (zmC1 w9 1 0) 1 0) 1 0) 1 0)
  | k + 1, i, w9 => zl_X5_begins_in0 v p0 k (i + 1) (zmC1 w9 0 ((zmC w9 0) ||| (1 <<< ((zmD w9 i).toInt64 &&& 63))))
def zf_X5_begins (v : zN) (p0 : Int32) : zN := zl_X5_begins_in0 v p0 10 0 (zmT1 (zmP1 (zmL1 (zmC1 (zmsK (zf_X5_shuffles v p0) ((1 <<< ((zmD (zf_X5_shuffles v p0) 30).toInt64 &&& 63)) ||| (1 <<< ((zmD (zf_X5_shuffles v p0) 31).toInt64 &&& 63)))) 0 0) 0 0) 0 0) 0 0)
abbrev zR_X5_begins : Room := { frames := 1, cells := 0, slots := 0, locals := 26 }
set_option maxHeartbeats 4000000 in
set_option maxRecDepth 100000 in
theorem zc_X5_begins {l : Launch} {D : va_G} {C : ClassId × ClassId} {a : Nat → Nat} {v : zN} {p0 : Int32} (hp : 0 ≤ p0.toInt) : zk_Mm l yX5_begins cX5_begins 4 none zR_X5_begins [.ref (a 0), .int (p0)] (zM C a v) D C (fun A => va_Qv (fun u' => u' = zf_X5_begins v p0) (fun u' t => va_P D vwCl (zM C a u') t.heap) A) := by
  refine zk_mm (by decide) (Nat.le_of_ble_eq_true rfl) ?_
  intro p e s m below meth c A X Y hD hA
  generalize hv : zf_X5_begins v p0 = V
  unfold zf_X5_begins at hv
  show zJ _ _ _ _ _ _ _ _ _ _ _ _ _ _ _ _ _ 0 [(0, .ref (a 0)), (1, .int (p0))] []
  refine zj_aload_n 1 X 0 dX5_begins_0 rfl rfl ?_
  refine zj_iload_n 2 X 1 dX5_begins_1 rfl rfl ?_
  refine zc_vm 5 (Wd := zM C a) (zr_Vm (As := [.int (p0)]) (rest := []) X (zc_X5_shuffles (l := l) (p0 := p0) (v := v) (hp := hp)) zw_X5_51 zn_X5_shuffles (zcR_of rfl) zO_M (zD_M _ hD) hA rfl (Nat.le_of_ble_eq_true rfl) dX5_begins_2) (zD_M _ hD) hA rfl ?_
  refine zj_aload_n 6 X 0 dX5_begins_5 rfl rfl ?_
  refine zj_lconst 7 X (v := 1) dX5_begins_6 (by decide) rfl ?_
  refine zj_aload_n 8 X 0 dX5_begins_7 rfl rfl ?_
  refine zg_RX5_7 11 X dX5_begins_8 rfl ?_
  refine zj_bipush 13 X (v := 30) dX5_begins_11 (by decide) rfl ?_
  refine zl_M_deck 14 X (w := zmD (zf_X5_shuffles v p0) 30) rfl (vp_in_iff.mpr (by decide)) dX5_begins_13 rfl ?_
  refine zj_lshl 15 X dX5_begins_14 rfl rfl ?_
  refine zj_lconst 16 X (v := 1) dX5_begins_15 (by decide) rfl ?_
  refine zj_aload_n 17 X 0 dX5_begins_16 rfl rfl ?_
  refine zg_RX5_7 20 X dX5_begins_17 rfl ?_
  refine zj_bipush 22 X (v := 31) dX5_begins_20 (by decide) rfl ?_
  refine zl_M_deck 23 X (w := zmD (zf_X5_shuffles v p0) 31) rfl (vp_in_iff.mpr (by decide)) dX5_begins_22 rfl ?_
  refine zj_lshl 24 X dX5_begins_23 rfl rfl ?_
  refine zj_lor 25 X dX5_begins_24 rfl ?_
  refine zp_RX5_54 28 X (zD_M _ hD) dX5_begins_25 rfl ?_
  refine zj_iconst 29 X (v := 0) dX5_begins_28 (by decide) rfl ?_
  refine zj_istore_n 30 X (lv1 := [(0, .ref (a 0)), (1, .int (p0)), (2, .int (0))]) [1, 2, 0] dX5_begins_29 (by decide) rfl rfl ?_
  refine zj_iload_n 31 X 2 dX5_begins_30 rfl rfl ?_
  refine zj_iconst 32 X (v := 3) dX5_begins_31 (by decide) rfl ?_
  refine zj_icmp_ge 35 108 X dX5_begins_32 (by decide) rfl (fun c1 => absurd c1 (by decide)) (fun _ => ?_)
  refine zj_aload_n 36 X 0 dX5_begins_35 rfl rfl ?_
  refine zg_RX5_13 39 X dX5_begins_36 rfl ?_
  refine zj_iload_n 40 X 2 dX5_begins_39 rfl rfl ?_
  refine zj_lconst 41 X (v := 0) dX5_begins_40 (by decide) rfl ?_
  refine zt_M_hands 42 X (zD_M _ hD) (vp_in_iff.mpr (by decide)) dX5_begins_41 rfl ?_
  show zJ _ _ _ _ _ _ _ _ _ _ _ _ _ _ _ _ (zM C a (zmC1 (zmsK (zf_X5_shuffles v p0) ((1 <<< ((zmD (zf_X5_shuffles v p0) 30).toInt64 &&& 63)) ||| (1 <<< ((zmD (zf_X5_shuffles v p0) 31).toInt64 &&& 63)))) 0 0)) 42 [(0, .ref (a 0)), (1, .int (p0)), (2, .int (0))] []
  refine zj_aload_n 43 X 0 dX5_begins_42 rfl rfl ?_
  refine zg_RX5_17 46 X dX5_begins_43 rfl ?_
  refine zj_iload_n 47 X 2 dX5_begins_46 rfl rfl ?_
  refine zj_lconst 48 X (v := 0) dX5_begins_47 (by decide) rfl ?_
  refine zt_M_played 49 X (zD_M _ hD) (vp_in_iff.mpr (by decide)) dX5_begins_48 rfl ?_
  show zJ _ _ _ _ _ _ _ _ _ _ _ _ _ _ _ _ (zM C a (zmL1 (zmC1 (zmsK (zf_X5_shuffles v p0) ((1 <<< ((zmD (zf_X5_shuffles v p0) 30).toInt64 &&& 63)) ||| (1 <<< ((zmD (zf_X5_shuffles v p0) 31).toInt64 &&& 63)))) 0 0) 0 0)) 49 [(0, .ref (a 0)), (1, .int (p0)), (2, .int (0))] []
  refine zj_aload_n 50 X 0 dX5_begins_49 rfl rfl ?_
  refine zg_RX5_23 53 X dX5_begins_50 rfl ?_
  refine zj_iload_n 54 X 2 dX5_begins_53 rfl rfl ?_
  refine zj_iconst 55 X (v := 0) dX5_begins_54 (by decide) rfl ?_
  refine zt_M_points 56 X (zD_M _ hD) (vp_in_iff.mpr (by decide)) dX5_begins_55 rfl ?_
  show zJ _ _ _ _ _ _ _ _ _ _ _ _ _ _ _ _ (zM C a (zmP1 (zmL1 (zmC1 (zmsK (zf_X5_shuffles v p0) ((1 <<< ((zmD (zf_X5_shuffles v p0) 30).toInt64 &&& 63)) ||| (1 <<< ((zmD (zf_X5_shuffles v p0) 31).toInt64 &&& 63)))) 0 0) 0 0) 0 0)) 56 [(0, .ref (a 0)), (1, .int (p0)), (2, .int (0))] []
  refine zj_aload_n 57 X 0 dX5_begins_56 rfl rfl ?_
  refine zg_RX5_26 60 X dX5_begins_57 rfl ?_
  refine zj_iload_n 61 X 2 dX5_begins_60 rfl rfl ?_
  refine zj_iconst 62 X (v := 0) dX5_begins_61 (by decide) rfl ?_
  refine zt_M_tricks 63 X (zD_M _ hD) (vp_in_iff.mpr (by decide)) dX5_begins_62 rfl ?_
  show zJ _ _ _ _ _ _ _ _ _ _ _ _ _ _ _ _ (zM C a (zmT1 (zmP1 (zmL1 (zmC1 (zmsK (zf_X5_shuffles v p0) ((1 <<< ((zmD (zf_X5_shuffles v p0) 30).toInt64 &&& 63)) ||| (1 <<< ((zmD (zf_X5_shuffles v p0) 31).toInt64 &&& 63)))) 0 0) 0 0) 0 0) 0 0)) 63 [(0, .ref (a 0)), (1, .int (p0)), (2, .int (0))] []
  refine zj_bipush 65 X (v := 10) dX5_begins_63 (by decide) rfl ?_
  refine zj_iload_n 66 X 2 dX5_begins_65 rfl rfl ?_
  refine zj_imul 67 X dX5_begins_66 rfl ?_
  show zJ _ _ _ _ _ _ _ _ _ _ _ _ _ _ _ _ _ 67 [(0, .ref (a 0)), (1, .int (p0)), (2, .int (0))] [.int (0)]
  refine zj_istore_n 68 X (lv1 := [(0, .ref (a 0)), (1, .int (p0)), (2, .int (0)), (3, .int (0))]) [1, 2, 3, 0] dX5_begins_67 (by decide) rfl rfl ?_
  have L2 : ∀ (k i : Nat)  (w9 : zN), i + k = 10 → zl_X5_begins_in0 v p0 k i w9 = V → zJ p l e zR_X5_begins s m ([.ref (a 0), .int (p0)] : List Value).toArray below meth c 0 0 (MQ below (va_Qv (fun u' => u' = V) (fun u' t => va_P D vwCl (zM C a u') t.heap) A) ([.ref (a 0), .int (p0)] : List Value).toArray s 0 0 A) D (zk_Km A s) 4 (zM C a w9) 68 [(0, .ref (a 0)), (1, .int (p0)), (2, .int (0)), (3, .int (nI i))] [] := by
    intro k
    induction k with
    | zero =>
      intro i w9 h1 hv
      rw [zl_X5_begins_in0] at hv
      refine zj_iload_n 69 X 3 dX5_begins_68 rfl rfl ?_
      refine zj_bipush 71 X (v := 10) dX5_begins_69 (by decide) rfl ?_
      refine zj_iload_n 72 X 2 dX5_begins_71 rfl rfl ?_
      refine zj_imul 73 X dX5_begins_72 rfl ?_
      show zJ _ _ _ _ _ _ _ _ _ _ _ _ _ _ _ _ _ 73 [(0, .ref (a 0)), (1, .int (p0)), (2, .int (0)), (3, .int (nI i))] [.int (0), .int (nI i)]
      refine zj_bipush 75 X (v := 10) dX5_begins_73 (by decide) rfl ?_
      refine zj_iadd 76 X dX5_begins_75 rfl ?_
      show zJ _ _ _ _ _ _ _ _ _ _ _ _ _ _ _ _ _ 76 [(0, .ref (a 0)), (1, .int (p0)), (2, .int (0)), (3, .int (nI i))] [.int (10), .int (nI i)]
      refine zj_icmp_ge 79 102 X dX5_begins_76 (by decide) rfl (fun _ => ?_) (fun c3 => absurd (zge0 (N := 10) (by rfl) (by omega)) c3)
      refine zj_iinc 105 X (v := 1) (lv1 := [(0, .ref (a 0)), (1, .int (p0)), (2, .int (1)), (3, .int (nI i))]) 2 [1, 2, 0, 3] dX5_begins_102 rfl (by decide) (by decide) rfl rfl ?_
      refine zj_goto 30 X dX5_begins_105 (by decide) ?_
      refine zj_iload_n 31 X 2 dX5_begins_30 rfl rfl ?_
      refine zj_iconst 32 X (v := 3) dX5_begins_31 (by decide) rfl ?_
      refine zj_icmp_ge 35 108 X dX5_begins_32 (by decide) rfl (fun c4 => absurd c4 (by decide)) (fun _ => ?_)
      refine zj_aload_n 36 X 0 dX5_begins_35 rfl rfl ?_
      refine zg_RX5_13 39 X dX5_begins_36 rfl ?_
      refine zj_iload_n 40 X 2 dX5_begins_39 rfl rfl ?_
      refine zj_lconst 41 X (v := 0) dX5_begins_40 (by decide) rfl ?_
      refine zt_M_hands 42 X (zD_M _ hD) (vp_in_iff.mpr (by decide)) dX5_begins_41 rfl ?_
      show zJ _ _ _ _ _ _ _ _ _ _ _ _ _ _ _ _ (zM C a (zmC1 w9 1 0)) 42 [(0, .ref (a 0)), (1, .int (p0)), (2, .int (1)), (3, .int (nI i))] []
      refine zj_aload_n 43 X 0 dX5_begins_42 rfl rfl ?_
      refine zg_RX5_17 46 X dX5_begins_43 rfl ?_
      refine zj_iload_n 47 X 2 dX5_begins_46 rfl rfl ?_
      refine zj_lconst 48 X (v := 0) dX5_begins_47 (by decide) rfl ?_
      refine zt_M_played 49 X (zD_M _ hD) (vp_in_iff.mpr (by decide)) dX5_begins_48 rfl ?_
      show zJ _ _ _ _ _ _ _ _ _ _ _ _ _ _ _ _ (zM C a (zmL1 (zmC1 w9 1 0) 1 0)) 49 [(0, .ref (a 0)), (1, .int (p0)), (2, .int (1)), (3, .int (nI i))] []
      refine zj_aload_n 50 X 0 dX5_begins_49 rfl rfl ?_
      refine zg_RX5_23 53 X dX5_begins_50 rfl ?_
      refine zj_iload_n 54 X 2 dX5_begins_53 rfl rfl ?_
      refine zj_iconst 55 X (v := 0) dX5_begins_54 (by decide) rfl ?_
      refine zt_M_points 56 X (zD_M _ hD) (vp_in_iff.mpr (by decide)) dX5_begins_55 rfl ?_
      show zJ _ _ _ _ _ _ _ _ _ _ _ _ _ _ _ _ (zM C a (zmP1 (zmL1 (zmC1 w9 1 0) 1 0) 1 0)) 56 [(0, .ref (a 0)), (1, .int (p0)), (2, .int (1)), (3, .int (nI i))] []
      refine zj_aload_n 57 X 0 dX5_begins_56 rfl rfl ?_
      refine zg_RX5_26 60 X dX5_begins_57 rfl ?_
      refine zj_iload_n 61 X 2 dX5_begins_60 rfl rfl ?_
      refine zj_iconst 62 X (v := 0) dX5_begins_61 (by decide) rfl ?_
      refine zt_M_tricks 63 X (zD_M _ hD) (vp_in_iff.mpr (by decide)) dX5_begins_62 rfl ?_
      show zJ _ _ _ _ _ _ _ _ _ _ _ _ _ _ _ _ (zM C a (zmT1 (zmP1 (zmL1 (zmC1 w9 1 0) 1 0) 1 0) 1 0)) 63 [(0, .ref (a 0)), (1, .int (p0)), (2, .int (1)), (3, .int (nI i))] []
      refine zj_bipush 65 X (v := 10) dX5_begins_63 (by decide) rfl ?_
      refine zj_iload_n 66 X 2 dX5_begins_65 rfl rfl ?_
      refine zj_imul 67 X dX5_begins_66 rfl ?_
      show zJ _ _ _ _ _ _ _ _ _ _ _ _ _ _ _ _ _ 67 [(0, .ref (a 0)), (1, .int (p0)), (2, .int (1)), (3, .int (nI i))] [.int (10)]
      refine zj_istore_n 68 X (lv1 := [(0, .ref (a 0)), (1, .int (p0)), (2, .int (1)), (3, .int (10))]) [1, 2, 3, 0] dX5_begins_67 (by decide) rfl rfl ?_
      have L5 : ∀ (k i : Nat)  (w9 : zN), i + k = 20 → zl_X5_begins_in1 v p0 k i w9 = V → zJ p l e zR_X5_begins s m ([.ref (a 0), .int (p0)] : List Value).toArray below meth c 0 0 (MQ below (va_Qv (fun u' => u' = V) (fun u' t => va_P D vwCl (zM C a u') t.heap) A) ([.ref (a 0), .int (p0)] : List Value).toArray s 0 0 A) D (zk_Km A s) 4 (zM C a w9) 68 [(0, .ref (a 0)), (1, .int (p0)), (2, .int (1)), (3, .int (nI i))] [] := by
        intro k
        induction k with
        | zero =>
          intro i w9 h1 hv
          rw [zl_X5_begins_in1] at hv
          refine zj_iload_n 69 X 3 dX5_begins_68 rfl rfl ?_
          refine zj_bipush 71 X (v := 10) dX5_begins_69 (by decide) rfl ?_
          refine zj_iload_n 72 X 2 dX5_begins_71 rfl rfl ?_
          refine zj_imul 73 X dX5_begins_72 rfl ?_
          show zJ _ _ _ _ _ _ _ _ _ _ _ _ _ _ _ _ _ 73 [(0, .ref (a 0)), (1, .int (p0)), (2, .int (1)), (3, .int (nI i))] [.int (10), .int (nI i)]
          refine zj_bipush 75 X (v := 10) dX5_begins_73 (by decide) rfl ?_
          refine zj_iadd 76 X dX5_begins_75 rfl ?_
          show zJ _ _ _ _ _ _ _ _ _ _ _ _ _ _ _ _ _ 76 [(0, .ref (a 0)), (1, .int (p0)), (2, .int (1)), (3, .int (nI i))] [.int (20), .int (nI i)]
          refine zj_icmp_ge 79 102 X dX5_begins_76 (by decide) rfl (fun _ => ?_) (fun c6 => absurd (zge0 (N := 20) (by rfl) (by omega)) c6)
          refine zj_iinc 105 X (v := 2) (lv1 := [(0, .ref (a 0)), (1, .int (p0)), (2, .int (2)), (3, .int (nI i))]) 2 [1, 2, 0, 3] dX5_begins_102 rfl (by decide) (by decide) rfl rfl ?_
          refine zj_goto 30 X dX5_begins_105 (by decide) ?_
          refine zj_iload_n 31 X 2 dX5_begins_30 rfl rfl ?_
          refine zj_iconst 32 X (v := 3) dX5_begins_31 (by decide) rfl ?_
          refine zj_icmp_ge 35 108 X dX5_begins_32 (by decide) rfl (fun c7 => absurd c7 (by decide)) (fun _ => ?_)
          refine zj_aload_n 36 X 0 dX5_begins_35 rfl rfl ?_
          refine zg_RX5_13 39 X dX5_begins_36 rfl ?_
          refine zj_iload_n 40 X 2 dX5_begins_39 rfl rfl ?_
          refine zj_lconst 41 X (v := 0) dX5_begins_40 (by decide) rfl ?_
          refine zt_M_hands 42 X (zD_M _ hD) (vp_in_iff.mpr (by decide)) dX5_begins_41 rfl ?_
          show zJ _ _ _ _ _ _ _ _ _ _ _ _ _ _ _ _ (zM C a (zmC1 w9 2 0)) 42 [(0, .ref (a 0)), (1, .int (p0)), (2, .int (2)), (3, .int (nI i))] []
          refine zj_aload_n 43 X 0 dX5_begins_42 rfl rfl ?_
          refine zg_RX5_17 46 X dX5_begins_43 rfl ?_
          refine zj_iload_n 47 X 2 dX5_begins_46 rfl rfl ?_
          refine zj_lconst 48 X (v := 0) dX5_begins_47 (by decide) rfl ?_
          refine zt_M_played 49 X (zD_M _ hD) (vp_in_iff.mpr (by decide)) dX5_begins_48 rfl ?_
          show zJ _ _ _ _ _ _ _ _ _ _ _ _ _ _ _ _ (zM C a (zmL1 (zmC1 w9 2 0) 2 0)) 49 [(0, .ref (a 0)), (1, .int (p0)), (2, .int (2)), (3, .int (nI i))] []
          refine zj_aload_n 50 X 0 dX5_begins_49 rfl rfl ?_
          refine zg_RX5_23 53 X dX5_begins_50 rfl ?_
          refine zj_iload_n 54 X 2 dX5_begins_53 rfl rfl ?_
          refine zj_iconst 55 X (v := 0) dX5_begins_54 (by decide) rfl ?_
          refine zt_M_points 56 X (zD_M _ hD) (vp_in_iff.mpr (by decide)) dX5_begins_55 rfl ?_
          show zJ _ _ _ _ _ _ _ _ _ _ _ _ _ _ _ _ (zM C a (zmP1 (zmL1 (zmC1 w9 2 0) 2 0) 2 0)) 56 [(0, .ref (a 0)), (1, .int (p0)), (2, .int (2)), (3, .int (nI i))] []
          refine zj_aload_n 57 X 0 dX5_begins_56 rfl rfl ?_
          refine zg_RX5_26 60 X dX5_begins_57 rfl ?_
          refine zj_iload_n 61 X 2 dX5_begins_60 rfl rfl ?_
          refine zj_iconst 62 X (v := 0) dX5_begins_61 (by decide) rfl ?_
          refine zt_M_tricks 63 X (zD_M _ hD) (vp_in_iff.mpr (by decide)) dX5_begins_62 rfl ?_
          show zJ _ _ _ _ _ _ _ _ _ _ _ _ _ _ _ _ (zM C a (zmT1 (zmP1 (zmL1 (zmC1 w9 2 0) 2 0) 2 0) 2 0)) 63 [(0, .ref (a 0)), (1, .int (p0)), (2, .int (2)), (3, .int (nI i))] []
          refine zj_bipush 65 X (v := 10) dX5_begins_63 (by decide) rfl ?_
          refine zj_iload_n 66 X 2 dX5_begins_65 rfl rfl ?_
          refine zj_imul 67 X dX5_begins_66 rfl ?_
          show zJ _ _ _ _ _ _ _ _ _ _ _ _ _ _ _ _ _ 67 [(0, .ref (a 0)), (1, .int (p0)), (2, .int (2)), (3, .int (nI i))] [.int (20)]
          refine zj_istore_n 68 X (lv1 := [(0, .ref (a 0)), (1, .int (p0)), (2, .int (2)), (3, .int (20))]) [1, 2, 3, 0] dX5_begins_67 (by decide) rfl rfl ?_
          have L8 : ∀ (k i : Nat)  (w9 : zN), i + k = 30 → zl_X5_begins_in2 v p0 k i w9 = V → zJ p l e zR_X5_begins s m ([.ref (a 0), .int (p0)] : List Value).toArray below meth c 0 0 (MQ below (va_Qv (fun u' => u' = V) (fun u' t => va_P D vwCl (zM C a u') t.heap) A) ([.ref (a 0), .int (p0)] : List Value).toArray s 0 0 A) D (zk_Km A s) 4 (zM C a w9) 68 [(0, .ref (a 0)), (1, .int (p0)), (2, .int (2)), (3, .int (nI i))] [] := by
            intro k
            induction k with
            | zero =>
              intro i w9 h1 hv
              rw [zl_X5_begins_in2] at hv
              refine zj_iload_n 69 X 3 dX5_begins_68 rfl rfl ?_
              refine zj_bipush 71 X (v := 10) dX5_begins_69 (by decide) rfl ?_
              refine zj_iload_n 72 X 2 dX5_begins_71 rfl rfl ?_
              refine zj_imul 73 X dX5_begins_72 rfl ?_
              show zJ _ _ _ _ _ _ _ _ _ _ _ _ _ _ _ _ _ 73 [(0, .ref (a 0)), (1, .int (p0)), (2, .int (2)), (3, .int (nI i))] [.int (20), .int (nI i)]
              refine zj_bipush 75 X (v := 10) dX5_begins_73 (by decide) rfl ?_
              refine zj_iadd 76 X dX5_begins_75 rfl ?_
              show zJ _ _ _ _ _ _ _ _ _ _ _ _ _ _ _ _ _ 76 [(0, .ref (a 0)), (1, .int (p0)), (2, .int (2)), (3, .int (nI i))] [.int (30), .int (nI i)]
              refine zj_icmp_ge 79 102 X dX5_begins_76 (by decide) rfl (fun _ => ?_) (fun c9 => absurd (zge0 (N := 30) (by rfl) (by omega)) c9)
              refine zj_iinc 105 X (v := 3) (lv1 := [(0, .ref (a 0)), (1, .int (p0)), (2, .int (3)), (3, .int (nI i))]) 2 [1, 2, 0, 3] dX5_begins_102 rfl (by decide) (by decide) rfl rfl ?_
              refine zj_goto 30 X dX5_begins_105 (by decide) ?_
              refine zj_iload_n 31 X 2 dX5_begins_30 rfl rfl ?_
              refine zj_iconst 32 X (v := 3) dX5_begins_31 (by decide) rfl ?_
              refine zj_icmp_ge 35 108 X dX5_begins_32 (by decide) rfl (fun _ => ?_) (fun c10 => absurd c10 (by decide))
              refine zj_aload_n 109 X 0 dX5_begins_108 rfl rfl ?_
              refine zj_iconst 110 X (v := 0) dX5_begins_109 (by decide) rfl ?_
              refine zp_RX5_58 113 X (zD_M _ hD) dX5_begins_110 rfl ?_
              refine zj_aload_n 114 X 0 dX5_begins_113 rfl rfl ?_
              refine zj_iconst 115 X (v := (-1)) dX5_begins_114 (by decide) rfl ?_
              refine zp_RX5_61 118 X (zD_M _ hD) dX5_begins_115 rfl ?_
              refine zj_aload_n 119 X 0 dX5_begins_118 rfl rfl ?_
              refine zj_iconst 120 X (v := (-1)) dX5_begins_119 (by decide) rfl ?_
              refine zp_RX5_64 123 X (zD_M _ hD) dX5_begins_120 rfl ?_
              refine zj_aload_n 124 X 0 dX5_begins_123 rfl rfl ?_
              refine zj_iconst 125 X (v := 0) dX5_begins_124 (by decide) rfl ?_
              refine zp_RX5_67 128 X (zD_M _ hD) dX5_begins_125 rfl ?_
              refine zj_aload_n 129 X 0 dX5_begins_128 rfl rfl ?_
              refine zj_iconst 130 X (v := 0) dX5_begins_129 (by decide) rfl ?_
              refine zp_RX5_70 133 X (zD_M _ hD) (by decide) dX5_begins_130 rfl ?_
              refine zj_aload_n 134 X 0 dX5_begins_133 rfl rfl ?_
              refine zj_iconst 135 X (v := 0) dX5_begins_134 (by decide) rfl ?_
              refine zp_RX5_74 138 X (zD_M _ hD) dX5_begins_135 rfl ?_
              refine zj_aload_n 139 X 0 dX5_begins_138 rfl rfl ?_
              refine zj_iconst 140 X (v := 0) dX5_begins_139 (by decide) rfl ?_
              refine zp_RX5_77 143 X (zD_M _ hD) dX5_begins_140 rfl ?_
              refine zj_aload_n 144 X 0 dX5_begins_143 rfl rfl ?_
              refine zj_aload_n 145 X 0 dX5_begins_144 rfl rfl ?_
              refine zc_i 148 (zr_V (As := []) (rest := [.ref (a 0)]) X (zc_X5_forehand (l := l) (v := zmI1 (zmI1 (zmI1 (zmI1 (zmI1 (zmI1 (zmI1 w9 11 0) 12 (-1)) 13 (-1)) 14 0) 15 0) 17 0) 10 0)) zw_X5_80 zn_X5_forehand (zcR_of rfl) zO_M zsI rfl (Nat.le_of_ble_eq_true rfl) dX5_begins_145) rfl ?_
              refine zp_RX5_84 151 X (zD_M _ hD) dX5_begins_148 rfl ?_
              refine zj_aload_n 152 X 0 dX5_begins_151 rfl rfl ?_
              refine zj_aload_n 153 X 0 dX5_begins_152 rfl rfl ?_
              refine zg_RX5_84 156 X (w := zf_X5_forehand (zmI1 (zmI1 (zmI1 (zmI1 (zmI1 (zmI1 (zmI1 w9 11 0) 12 (-1)) 13 (-1)) 14 0) 15 0) 17 0) 10 0)) rfl dX5_begins_153 rfl ?_
              refine zj_iconst 157 X (v := 1) dX5_begins_156 (by decide) rfl ?_
              refine zj_iadd 158 X dX5_begins_157 rfl ?_
              refine zj_iconst 159 X (v := 3) dX5_begins_158 (by decide) rfl ?_
              refine zj_irem 160 X dX5_begins_159 (by decide) rfl ?_
              refine zp_RX5_87 163 X (zD_M _ hD) dX5_begins_160 rfl ?_
              refine zj_aload_n 164 X 0 dX5_begins_163 rfl rfl ?_
              refine zj_iconst 165 X (v := 0) dX5_begins_164 (by decide) rfl ?_
              refine zj_aload_n 166 X 0 dX5_begins_165 rfl rfl ?_
              refine zg_RX5_87 169 X (w := ((zf_X5_forehand (zmI1 (zmI1 (zmI1 (zmI1 (zmI1 (zmI1 (zmI1 w9 11 0) 12 (-1)) 13 (-1)) 14 0) 15 0) 17 0) 10 0)) + 1) - ((zf_X5_forehand (zmI1 (zmI1 (zmI1 (zmI1 (zmI1 (zmI1 (zmI1 w9 11 0) 12 (-1)) 13 (-1)) 14 0) 15 0) 17 0) 10 0)) + 1) / 3 * 3) rfl dX5_begins_166 rfl ?_
              refine zc_vm 172 (Wd := zM C a) (zr_Vm (As := [.int (0), .int (((zf_X5_forehand (zmI1 (zmI1 (zmI1 (zmI1 (zmI1 (zmI1 (zmI1 w9 11 0) 12 (-1)) 13 (-1)) 14 0) 15 0) 17 0) 10 0)) + 1) - ((zf_X5_forehand (zmI1 (zmI1 (zmI1 (zmI1 (zmI1 (zmI1 (zmI1 w9 11 0) 12 (-1)) 13 (-1)) 14 0) 15 0) 17 0) 10 0)) + 1) / 3 * 3)]) (rest := []) X (zc_X5_turns (l := l) (p0 := 0) (p1 := ((zf_X5_forehand (zmI1 (zmI1 (zmI1 (zmI1 (zmI1 (zmI1 (zmI1 w9 11 0) 12 (-1)) 13 (-1)) 14 0) 15 0) 17 0) 10 0)) + 1) - ((zf_X5_forehand (zmI1 (zmI1 (zmI1 (zmI1 (zmI1 (zmI1 (zmI1 w9 11 0) 12 (-1)) 13 (-1)) 14 0) 15 0) 17 0) 10 0)) + 1) / 3 * 3) (v := zmI1 (zmI1 (zmI1 (zmI1 (zmI1 (zmI1 (zmI1 (zmI1 (zmI1 w9 11 0) 12 (-1)) 13 (-1)) 14 0) 15 0) 17 0) 10 0) 9 (zf_X5_forehand (zmI1 (zmI1 (zmI1 (zmI1 (zmI1 (zmI1 (zmI1 w9 11 0) 12 (-1)) 13 (-1)) 14 0) 15 0) 17 0) 10 0))) 8 (((zf_X5_forehand (zmI1 (zmI1 (zmI1 (zmI1 (zmI1 (zmI1 (zmI1 w9 11 0) 12 (-1)) 13 (-1)) 14 0) 15 0) 17 0) 10 0)) + 1) - ((zf_X5_forehand (zmI1 (zmI1 (zmI1 (zmI1 (zmI1 (zmI1 (zmI1 w9 11 0) 12 (-1)) 13 (-1)) 14 0) 15 0) 17 0) 10 0)) + 1) / 3 * 3))) zw_X5_90 zn_X5_turns (zcR_of rfl) zO_M (zD_M _ hD) hA rfl (Nat.le_of_ble_eq_true rfl) dX5_begins_169) (zD_M _ hD) hA rfl ?_
              exact ze_vm (Wd := zM C a) (u := (zf_X5_turns (zmI1 (zmI1 (zmI1 (zmI1 (zmI1 (zmI1 (zmI1 (zmI1 (zmI1 w9 11 0) 12 (-1)) 13 (-1)) 14 0) 15 0) 17 0) 10 0) 9 (zf_X5_forehand (zmI1 (zmI1 (zmI1 (zmI1 (zmI1 (zmI1 (zmI1 w9 11 0) 12 (-1)) 13 (-1)) 14 0) 15 0) 17 0) 10 0))) 8 (((zf_X5_forehand (zmI1 (zmI1 (zmI1 (zmI1 (zmI1 (zmI1 (zmI1 w9 11 0) 12 (-1)) 13 (-1)) 14 0) 15 0) 17 0) 10 0)) + 1) - ((zf_X5_forehand (zmI1 (zmI1 (zmI1 (zmI1 (zmI1 (zmI1 (zmI1 w9 11 0) 12 (-1)) 13 (-1)) 14 0) 15 0) 17 0) 10 0)) + 1) / 3 * 3)) 0 (((zf_X5_forehand (zmI1 (zmI1 (zmI1 (zmI1 (zmI1 (zmI1 (zmI1 w9 11 0) 12 (-1)) 13 (-1)) 14 0) 15 0) 17 0) 10 0)) + 1) - ((zf_X5_forehand (zmI1 (zmI1 (zmI1 (zmI1 (zmI1 (zmI1 (zmI1 w9 11 0) 12 (-1)) 13 (-1)) 14 0) 15 0) 17 0) 10 0)) + 1) / 3 * 3))) X Y hv dX5_begins_172
            | succ k ih =>
              intro i w9 h1 hv
              rw [zl_X5_begins_in2] at hv
              refine zj_iload_n 69 X 3 dX5_begins_68 rfl rfl ?_
              refine zj_bipush 71 X (v := 10) dX5_begins_69 (by decide) rfl ?_
              refine zj_iload_n 72 X 2 dX5_begins_71 rfl rfl ?_
              refine zj_imul 73 X dX5_begins_72 rfl ?_
              show zJ _ _ _ _ _ _ _ _ _ _ _ _ _ _ _ _ _ 73 [(0, .ref (a 0)), (1, .int (p0)), (2, .int (2)), (3, .int (nI i))] [.int (20), .int (nI i)]
              refine zj_bipush 75 X (v := 10) dX5_begins_73 (by decide) rfl ?_
              refine zj_iadd 76 X dX5_begins_75 rfl ?_
              show zJ _ _ _ _ _ _ _ _ _ _ _ _ _ _ _ _ _ 76 [(0, .ref (a 0)), (1, .int (p0)), (2, .int (2)), (3, .int (nI i))] [.int (30), .int (nI i)]
              refine zj_icmp_ge 79 102 X dX5_begins_76 (by decide) rfl (fun c11 => absurd c11 (zge (N := 30) (by rfl) (by omega) (by decide))) (fun _ => ?_)
              refine zj_aload_n 80 X 0 dX5_begins_79 rfl rfl ?_
              refine zg_RX5_13 83 X dX5_begins_80 rfl ?_
              refine zj_iload_n 84 X 2 dX5_begins_83 rfl rfl ?_
              refine zj_dup2_11 85 X dX5_begins_84 rfl rfl rfl ?_
              refine zl_M_hands 86 X (w := zmC w9 2) rfl (vp_in_iff.mpr (by decide)) dX5_begins_85 rfl ?_
              refine zj_lconst 87 X (v := 1) dX5_begins_86 (by decide) rfl ?_
              refine zj_aload_n 88 X 0 dX5_begins_87 rfl rfl ?_
              refine zg_RX5_7 91 X dX5_begins_88 rfl ?_
              refine zj_iload_n 92 X 3 dX5_begins_91 rfl rfl ?_
              refine zl_M_deck 93 X (w := zmD w9 i) (by rw [nI_clamp (by omega)]) (vp_in_nI (by omega) (by omega)) dX5_begins_92 rfl ?_
              refine zj_lshl 94 X dX5_begins_93 rfl rfl ?_
              refine zj_lor 95 X dX5_begins_94 rfl ?_
              refine zt_M_hands 96 X (zD_M _ hD) (vp_in_iff.mpr (by decide)) dX5_begins_95 rfl ?_
              show zJ _ _ _ _ _ _ _ _ _ _ _ _ _ _ _ _ (zM C a (zmC1 w9 2 ((zmC w9 2) ||| (1 <<< ((zmD w9 i).toInt64 &&& 63))))) 96 [(0, .ref (a 0)), (1, .int (p0)), (2, .int (2)), (3, .int (nI i))] []
              refine zj_iinc 99 X (v := nI (i + 1)) (lv1 := [(0, .ref (a 0)), (1, .int (p0)), (2, .int (2)), (3, .int (nI (i + 1)))]) 3 [1, 2, 3, 0] dX5_begins_96 rfl (zinc _) (by decide) rfl rfl ?_
              refine zj_goto 68 X dX5_begins_99 (by decide) ?_
              exact ih (i + 1)  (zmC1 w9 2 ((zmC w9 2) ||| (1 <<< ((zmD w9 i).toInt64 &&& 63)))) (by omega)  hv
          exact L8 10 20 (zmT1 (zmP1 (zmL1 (zmC1 w9 2 0) 2 0) 2 0) 2 0) (by decide)  hv
        | succ k ih =>
          intro i w9 h1 hv
          rw [zl_X5_begins_in1] at hv
          refine zj_iload_n 69 X 3 dX5_begins_68 rfl rfl ?_
          refine zj_bipush 71 X (v := 10) dX5_begins_69 (by decide) rfl ?_
          refine zj_iload_n 72 X 2 dX5_begins_71 rfl rfl ?_
          refine zj_imul 73 X dX5_begins_72 rfl ?_
          show zJ _ _ _ _ _ _ _ _ _ _ _ _ _ _ _ _ _ 73 [(0, .ref (a 0)), (1, .int (p0)), (2, .int (1)), (3, .int (nI i))] [.int (10), .int (nI i)]
          refine zj_bipush 75 X (v := 10) dX5_begins_73 (by decide) rfl ?_
          refine zj_iadd 76 X dX5_begins_75 rfl ?_
          show zJ _ _ _ _ _ _ _ _ _ _ _ _ _ _ _ _ _ 76 [(0, .ref (a 0)), (1, .int (p0)), (2, .int (1)), (3, .int (nI i))] [.int (20), .int (nI i)]
          refine zj_icmp_ge 79 102 X dX5_begins_76 (by decide) rfl (fun c12 => absurd c12 (zge (N := 20) (by rfl) (by omega) (by decide))) (fun _ => ?_)
          refine zj_aload_n 80 X 0 dX5_begins_79 rfl rfl ?_
          refine zg_RX5_13 83 X dX5_begins_80 rfl ?_
          refine zj_iload_n 84 X 2 dX5_begins_83 rfl rfl ?_
          refine zj_dup2_11 85 X dX5_begins_84 rfl rfl rfl ?_
          refine zl_M_hands 86 X (w := zmC w9 1) rfl (vp_in_iff.mpr (by decide)) dX5_begins_85 rfl ?_
          refine zj_lconst 87 X (v := 1) dX5_begins_86 (by decide) rfl ?_
          refine zj_aload_n 88 X 0 dX5_begins_87 rfl rfl ?_
          refine zg_RX5_7 91 X dX5_begins_88 rfl ?_
          refine zj_iload_n 92 X 3 dX5_begins_91 rfl rfl ?_
          refine zl_M_deck 93 X (w := zmD w9 i) (by rw [nI_clamp (by omega)]) (vp_in_nI (by omega) (by omega)) dX5_begins_92 rfl ?_
          refine zj_lshl 94 X dX5_begins_93 rfl rfl ?_
          refine zj_lor 95 X dX5_begins_94 rfl ?_
          refine zt_M_hands 96 X (zD_M _ hD) (vp_in_iff.mpr (by decide)) dX5_begins_95 rfl ?_
          show zJ _ _ _ _ _ _ _ _ _ _ _ _ _ _ _ _ (zM C a (zmC1 w9 1 ((zmC w9 1) ||| (1 <<< ((zmD w9 i).toInt64 &&& 63))))) 96 [(0, .ref (a 0)), (1, .int (p0)), (2, .int (1)), (3, .int (nI i))] []
          refine zj_iinc 99 X (v := nI (i + 1)) (lv1 := [(0, .ref (a 0)), (1, .int (p0)), (2, .int (1)), (3, .int (nI (i + 1)))]) 3 [1, 2, 3, 0] dX5_begins_96 rfl (zinc _) (by decide) rfl rfl ?_
          refine zj_goto 68 X dX5_begins_99 (by decide) ?_
          exact ih (i + 1)  (zmC1 w9 1 ((zmC w9 1) ||| (1 <<< ((zmD w9 i).toInt64 &&& 63)))) (by omega)  hv
      exact L5 10 10 (zmT1 (zmP1 (zmL1 (zmC1 w9 1 0) 1 0) 1 0) 1 0) (by decide)  hv
    | succ k ih =>
      intro i w9 h1 hv
      rw [zl_X5_begins_in0] at hv
      refine zj_iload_n 69 X 3 dX5_begins_68 rfl rfl ?_
      refine zj_bipush 71 X (v := 10) dX5_begins_69 (by decide) rfl ?_
      refine zj_iload_n 72 X 2 dX5_begins_71 rfl rfl ?_
      refine zj_imul 73 X dX5_begins_72 rfl ?_
      show zJ _ _ _ _ _ _ _ _ _ _ _ _ _ _ _ _ _ 73 [(0, .ref (a 0)), (1, .int (p0)), (2, .int (0)), (3, .int (nI i))] [.int (0), .int (nI i)]
      refine zj_bipush 75 X (v := 10) dX5_begins_73 (by decide) rfl ?_
      refine zj_iadd 76 X dX5_begins_75 rfl ?_
      show zJ _ _ _ _ _ _ _ _ _ _ _ _ _ _ _ _ _ 76 [(0, .ref (a 0)), (1, .int (p0)), (2, .int (0)), (3, .int (nI i))] [.int (10), .int (nI i)]
      refine zj_icmp_ge 79 102 X dX5_begins_76 (by decide) rfl (fun c13 => absurd c13 (zge (N := 10) (by rfl) (by omega) (by decide))) (fun _ => ?_)
      refine zj_aload_n 80 X 0 dX5_begins_79 rfl rfl ?_
      refine zg_RX5_13 83 X dX5_begins_80 rfl ?_
      refine zj_iload_n 84 X 2 dX5_begins_83 rfl rfl ?_
      refine zj_dup2_11 85 X dX5_begins_84 rfl rfl rfl ?_
      refine zl_M_hands 86 X (w := zmC w9 0) rfl (vp_in_iff.mpr (by decide)) dX5_begins_85 rfl ?_
      refine zj_lconst 87 X (v := 1) dX5_begins_86 (by decide) rfl ?_
      refine zj_aload_n 88 X 0 dX5_begins_87 rfl rfl ?_
      refine zg_RX5_7 91 X dX5_begins_88 rfl ?_
      refine zj_iload_n 92 X 3 dX5_begins_91 rfl rfl ?_
      refine zl_M_deck 93 X (w := zmD w9 i) (by rw [nI_clamp (by omega)]) (vp_in_nI (by omega) (by omega)) dX5_begins_92 rfl ?_
      refine zj_lshl 94 X dX5_begins_93 rfl rfl ?_
      refine zj_lor 95 X dX5_begins_94 rfl ?_
      refine zt_M_hands 96 X (zD_M _ hD) (vp_in_iff.mpr (by decide)) dX5_begins_95 rfl ?_
      show zJ _ _ _ _ _ _ _ _ _ _ _ _ _ _ _ _ (zM C a (zmC1 w9 0 ((zmC w9 0) ||| (1 <<< ((zmD w9 i).toInt64 &&& 63))))) 96 [(0, .ref (a 0)), (1, .int (p0)), (2, .int (0)), (3, .int (nI i))] []
      refine zj_iinc 99 X (v := nI (i + 1)) (lv1 := [(0, .ref (a 0)), (1, .int (p0)), (2, .int (0)), (3, .int (nI (i + 1)))]) 3 [1, 2, 3, 0] dX5_begins_96 rfl (zinc _) (by decide) rfl rfl ?_
      refine zj_goto 68 X dX5_begins_99 (by decide) ?_
      exact ih (i + 1)  (zmC1 w9 0 ((zmC w9 0) ||| (1 <<< ((zmD w9 i).toInt64 &&& 63)))) (by omega)  hv
  exact L2 10 0 (zmT1 (zmP1 (zmL1 (zmC1 (zmsK (zf_X5_shuffles v p0) ((1 <<< ((zmD (zf_X5_shuffles v p0) 30).toInt64 &&& 63)) ||| (1 <<< ((zmD (zf_X5_shuffles v p0) 31).toInt64 &&& 63)))) 0 0) 0 0) 0 0) 0 0) (by decide)  hv
def zf_X5_deal (v : zN) (p0 : Int32) : Int32 × zN := if 0 ≤ p0 then (zf_X5_forehand (zf_X5_begins (zmI1 (zmI1 v 0 0) 1 ((zmI v 1) + 1)) p0), (zf_X5_begins (zmI1 (zmI1 v 0 0) 1 ((zmI v 1) + 1)) p0)) else (0, zmI1 v 0 1)
abbrev zR_X5_deal : Room := { frames := 2, cells := 0, slots := 0, locals := 49 }
set_option maxHeartbeats 4000000 in
set_option maxRecDepth 100000 in
theorem zc_X5_deal {l : Launch} {D : va_G} {C : ClassId × ClassId} {a : Nat → Nat} {v : zN} {p0 : Int32} : zk_Mm l yX5_deal cX5_deal 2 (some .int) zR_X5_deal [.ref (a 0), .int (p0)] (zM C a v) D C (fun A => va_Qi (fun r u' => (r, u') = zf_X5_deal v p0) (fun u' t => va_P D vwCl (zM C a u') t.heap) A) := by
  refine zk_mm (by decide) (Nat.le_of_ble_eq_true rfl) ?_
  intro p e s m below meth c A X Y hD hA
  generalize hv : zf_X5_deal v p0 = V
  unfold zf_X5_deal at hv
  show zJ _ _ _ _ _ _ _ _ _ _ _ _ _ _ _ _ _ 0 [(0, .ref (a 0)), (1, .int (p0))] []
  refine zj_aload_n 1 X 0 dX5_deal_0 rfl rfl ?_
  refine zj_iload_n 2 X 1 dX5_deal_1 rfl rfl ?_
  refine zj_if_ge 5 9 X dX5_deal_2 (by decide) rfl (fun c1 => ?_) (fun c1 => ?_)
  · rw [if_pos c1] at hv
    refine zj_iconst 10 X (v := 0) dX5_deal_9 (by decide) rfl ?_
    refine zc_im 13 (Wd := zM C a) (zr_Vm (As := [.int (0)]) (rest := []) X (zc_X5_holds (l := l) (p0 := 0) (v := v)) zw_X5_100 zn_X5_holds (zcR_of rfl) zO_M (zD_M _ hD) hA rfl (Nat.le_of_ble_eq_true rfl) dX5_deal_10) (zD_M _ hD) hA rfl ?_
    show zJ _ _ _ _ _ _ _ _ _ _ _ _ _ _ _ _ (zM C a (zmI1 v 0 0)) 13 [(0, .ref (a 0)), (1, .int (p0))] [.int (1)]
    refine zj_if_ne 16 18 X dX5_deal_13 (by decide) rfl (fun _ => ?_) (fun c2 => absurd c2 (by decide))
    refine zj_aload_n 19 X 0 dX5_deal_18 rfl rfl ?_
    refine zj_dup 20 X dX5_deal_19 rfl rfl ?_
    refine zg_RX5_40 23 X (w := zmI v 1) rfl dX5_deal_20 rfl ?_
    refine zj_iconst 24 X (v := 1) dX5_deal_23 (by decide) rfl ?_
    refine zj_iadd 25 X dX5_deal_24 rfl ?_
    refine zp_RX5_40 28 X (zD_M _ hD) dX5_deal_25 rfl ?_
    refine zj_aload_n 29 X 0 dX5_deal_28 rfl rfl ?_
    refine zj_iload_n 30 X 1 dX5_deal_29 rfl rfl ?_
    refine zc_vm 33 (Wd := zM C a) (zr_Vm (As := [.int (p0)]) (rest := []) X (zc_X5_begins (l := l) (p0 := p0) (v := zmI1 (zmI1 v 0 0) 1 ((zmI v 1) + 1)) (hp := (zs_nn c1))) zw_X5_32 zn_X5_begins (zcR_of rfl) zO_M (zD_M _ hD) hA rfl (Nat.le_of_ble_eq_true rfl) dX5_deal_30) (zD_M _ hD) hA rfl ?_
    refine zj_aload_n 34 X 0 dX5_deal_33 rfl rfl ?_
    refine zc_i 37 (zr_V (As := []) (rest := []) X (zc_X5_forehand (l := l) (v := (zf_X5_begins (zmI1 (zmI1 v 0 0) 1 ((zmI v 1) + 1)) p0))) zw_X5_80 zn_X5_forehand (zcR_of rfl) zO_M zsI rfl (Nat.le_of_ble_eq_true rfl) dX5_deal_34) rfl ?_
    exact ze_im (Wd := zM C a) (u := (zf_X5_begins (zmI1 (zmI1 v 0 0) 1 ((zmI v 1) + 1)) p0)) X Y hv dX5_deal_37
  · rw [if_neg c1] at hv
    refine zj_iconst 6 X (v := 1) dX5_deal_5 (by decide) rfl ?_
    refine zj_goto 10 X dX5_deal_6 (by decide) ?_
    refine zc_im 13 (Wd := zM C a) (zr_Vm (As := [.int (1)]) (rest := []) X (zc_X5_holds (l := l) (p0 := 1) (v := v)) zw_X5_100 zn_X5_holds (zcR_of rfl) zO_M (zD_M _ hD) hA rfl (Nat.le_of_ble_eq_true rfl) dX5_deal_10) (zD_M _ hD) hA rfl ?_
    show zJ _ _ _ _ _ _ _ _ _ _ _ _ _ _ _ _ (zM C a (zmI1 v 0 1)) 13 [(0, .ref (a 0)), (1, .int (p0))] [.int (0)]
    refine zj_if_ne 16 18 X dX5_deal_13 (by decide) rfl (fun c3 => absurd c3 (by decide)) (fun _ => ?_)
    refine zj_iconst 17 X (v := 0) dX5_deal_16 (by decide) rfl ?_
    exact ze_im (Wd := zM C a) (u := zmI1 v 0 1) X Y hv dX5_deal_17
