def zf_X2_startDeal (u : zU) (j : Nat) : zU := zuT1 (zuP1 (zuL1 (zuC1 u j 0) j 0) j 0) j 0
abbrev zR_X2_startDeal : Room := { frames := 0, cells := 0, slots := 0, locals := 0 }
set_option maxHeartbeats 4000000 in
set_option maxRecDepth 100000 in
theorem zc_X2_startDeal {l : Launch} {D : va_G} {C : ClassId × ClassId} {a : Nat → Nat} {u : zU} {j : Nat} (hj : j < 3) : zk_Mm l yX2_startDeal cX2_startDeal 1 none zR_X2_startDeal [.ref (a (1 + j))] (zS C a u) D C (fun A => va_Qv (fun u' => u' = zf_X2_startDeal u j) (fun u' t => va_P D vwCl (zS C a u') t.heap) A) := by
  refine zk_mm (by decide) (Nat.le_of_ble_eq_true rfl) ?_
  intro p e s m below meth c A X Y hD hA
  generalize hv : zf_X2_startDeal u j = V
  unfold zf_X2_startDeal at hv
  show zJ _ _ _ _ _ _ _ _ _ _ _ _ _ _ _ _ _ 0 [(0, .ref (a (1 + j)))] []
  refine zj_aload_n 1 X 0 dX2_startDeal_0 rfl rfl ?_
  refine zj_lconst 2 X (v := 0) dX2_startDeal_1 (by decide) rfl ?_
  refine zp_RX2_7 5 j hj X (zD_S _ hD) dX2_startDeal_2 rfl ?_
  refine zj_aload_n 6 X 0 dX2_startDeal_5 rfl rfl ?_
  refine zj_lconst 7 X (v := 0) dX2_startDeal_6 (by decide) rfl ?_
  refine zp_RX2_13 10 j hj X (zD_S _ hD) dX2_startDeal_7 rfl ?_
  refine zj_aload_n 11 X 0 dX2_startDeal_10 rfl rfl ?_
  refine zj_iconst 12 X (v := 0) dX2_startDeal_11 (by decide) rfl ?_
  refine zp_RX2_16 15 j hj X (zD_S _ hD) dX2_startDeal_12 rfl ?_
  refine zj_aload_n 16 X 0 dX2_startDeal_15 rfl rfl ?_
  refine zj_iconst 17 X (v := 0) dX2_startDeal_16 (by decide) rfl ?_
  refine zp_RX2_20 20 j hj X (zD_S _ hD) dX2_startDeal_17 rfl ?_
  exact ze_vm (Wd := zS C a) (u := zuT1 (zuP1 (zuL1 (zuC1 u j 0) j 0) j 0) j 0) X Y hv dX2_startDeal_20
def zf_X2_lay (u : zU) (j : Nat) (p0 : Int32) : zU := zuL1 (zuC1 u j ((zuC u j) &&& ((zf_X1_setOf p0) ^^^ (-1)))) j ((zuL u j) ||| (zf_X1_setOf p0))
abbrev zR_X2_lay : Room := { frames := 1, cells := 0, slots := 0, locals := 20 }
set_option maxHeartbeats 4000000 in
set_option maxRecDepth 100000 in
theorem zc_X2_lay {l : Launch} {D : va_G} {C : ClassId × ClassId} {a : Nat → Nat} {u : zU} {j : Nat} {p0 : Int32} (hj : j < 3) : zk_Mm l yX2_lay cX2_lay 2 none zR_X2_lay [.ref (a (1 + j)), .int (p0)] (zS C a u) D C (fun A => va_Qv (fun u' => u' = zf_X2_lay u j p0) (fun u' t => va_P D vwCl (zS C a u') t.heap) A) := by
  refine zk_mm (by decide) (Nat.le_of_ble_eq_true rfl) ?_
  intro p e s m below meth c A X Y hD hA
  generalize hv : zf_X2_lay u j p0 = V
  unfold zf_X2_lay at hv
  show zJ _ _ _ _ _ _ _ _ _ _ _ _ _ _ _ _ _ 0 [(0, .ref (a (1 + j))), (1, .int (p0))] []
  refine zj_aload_n 1 X 0 dX2_lay_0 rfl rfl ?_
  refine zj_dup 2 X dX2_lay_1 rfl rfl ?_
  refine zg_RX2_7 5 j hj X (w := zuC u j) rfl dX2_lay_2 rfl ?_
  refine zj_iload_n 6 X 1 dX2_lay_5 rfl rfl ?_
  refine zc_l 9 (zr_SN (As := [.int (p0)]) (rest := [.long (zuC u j), .ref (a (1 + j))]) X (zc_X1_setOf (l := l) (p0 := p0)) zw_X2_23 zn_X1_setOf (zcR_of rfl) zs0 rfl (Nat.le_of_ble_eq_true rfl) dX2_lay_6) rfl ?_
  refine zj_ldc2 12 X (v := (-1)) (zG_t 390 (by decide +kernel) rfl) dX2_lay_9 rfl ?_
  refine zj_lxor 13 X dX2_lay_12 rfl ?_
  refine zj_land 14 X dX2_lay_13 rfl ?_
  refine zp_RX2_7 17 j hj X (zD_S _ hD) dX2_lay_14 rfl ?_
  refine zj_aload_n 18 X 0 dX2_lay_17 rfl rfl ?_
  refine zj_dup 19 X dX2_lay_18 rfl rfl ?_
  refine zg_RX2_13 22 j hj X (w := zuL u j) rfl dX2_lay_19 rfl ?_
  refine zj_iload_n 23 X 1 dX2_lay_22 rfl rfl ?_
  refine zc_l 26 (zr_SN (As := [.int (p0)]) (rest := [.long (zuL u j), .ref (a (1 + j))]) X (zc_X1_setOf (l := l) (p0 := p0)) zw_X2_23 zn_X1_setOf (zcR_of rfl) zs0 rfl (Nat.le_of_ble_eq_true rfl) dX2_lay_23) rfl ?_
  refine zj_lor 27 X dX2_lay_26 rfl ?_
  refine zp_RX2_13 30 j hj X (zD_S _ hD) dX2_lay_27 rfl ?_
  exact ze_vm (Wd := zS C a) (u := zuL1 (zuC1 u j ((zuC u j) &&& ((zf_X1_setOf p0) ^^^ (-1)))) j ((zuL u j) ||| (zf_X1_setOf p0))) X Y hv dX2_lay_30
def zf_X2_win (u : zU) (j : Nat) (p0 : Int32) : zU := zuT1 (zuP1 u j ((zuP u j) + p0)) j ((zuT u j) + 1)
abbrev zR_X2_win : Room := { frames := 0, cells := 0, slots := 0, locals := 0 }
set_option maxHeartbeats 4000000 in
set_option maxRecDepth 100000 in
theorem zc_X2_win {l : Launch} {D : va_G} {C : ClassId × ClassId} {a : Nat → Nat} {u : zU} {j : Nat} {p0 : Int32} (hj : j < 3) : zk_Mm l yX2_win cX2_win 2 none zR_X2_win [.ref (a (1 + j)), .int (p0)] (zS C a u) D C (fun A => va_Qv (fun u' => u' = zf_X2_win u j p0) (fun u' t => va_P D vwCl (zS C a u') t.heap) A) := by
  refine zk_mm (by decide) (Nat.le_of_ble_eq_true rfl) ?_
  intro p e s m below meth c A X Y hD hA
  generalize hv : zf_X2_win u j p0 = V
  unfold zf_X2_win at hv
  show zJ _ _ _ _ _ _ _ _ _ _ _ _ _ _ _ _ _ 0 [(0, .ref (a (1 + j))), (1, .int (p0))] []
  refine zj_aload_n 1 X 0 dX2_win_0 rfl rfl ?_
  refine zj_dup 2 X dX2_win_1 rfl rfl ?_
  refine zg_RX2_16 5 j hj X (w := zuP u j) rfl dX2_win_2 rfl ?_
  refine zj_iload_n 6 X 1 dX2_win_5 rfl rfl ?_
  refine zj_iadd 7 X dX2_win_6 rfl ?_
  refine zp_RX2_16 10 j hj X (zD_S _ hD) dX2_win_7 rfl ?_
  refine zj_aload_n 11 X 0 dX2_win_10 rfl rfl ?_
  refine zj_dup 12 X dX2_win_11 rfl rfl ?_
  refine zg_RX2_20 15 j hj X (w := zuT u j) rfl dX2_win_12 rfl ?_
  refine zj_iconst 16 X (v := 1) dX2_win_15 (by decide) rfl ?_
  refine zj_iadd 17 X dX2_win_16 rfl ?_
  refine zp_RX2_20 20 j hj X (zD_S _ hD) dX2_win_17 rfl ?_
  exact ze_vm (Wd := zS C a) (u := zuT1 (zuP1 u j ((zuP u j) + p0)) j ((zuT u j) + 1)) X Y hv dX2_win_20
def zf_X2_loseRamschWith (u : zU) (j : Nat) (p0 : Int32) : zU := if (zuP u j) = p0 then zuO1 u j ((zuO u j) - p0) else u
abbrev zR_X2_loseRamschWith : Room := { frames := 0, cells := 0, slots := 0, locals := 0 }
set_option maxHeartbeats 4000000 in
set_option maxRecDepth 100000 in
theorem zc_X2_loseRamschWith {l : Launch} {D : va_G} {C : ClassId × ClassId} {a : Nat → Nat} {u : zU} {j : Nat} {p0 : Int32} (hj : j < 3) : zk_Mm l yX2_loseRamschWith cX2_loseRamschWith 2 none zR_X2_loseRamschWith [.ref (a (1 + j)), .int (p0)] (zS C a u) D C (fun A => va_Qv (fun u' => u' = zf_X2_loseRamschWith u j p0) (fun u' t => va_P D vwCl (zS C a u') t.heap) A) := by
  refine zk_mm (by decide) (Nat.le_of_ble_eq_true rfl) ?_
  intro p e s m below meth c A X Y hD hA
  generalize hv : zf_X2_loseRamschWith u j p0 = V
  unfold zf_X2_loseRamschWith at hv
  show zJ _ _ _ _ _ _ _ _ _ _ _ _ _ _ _ _ _ 0 [(0, .ref (a (1 + j))), (1, .int (p0))] []
  refine zj_aload_n 1 X 0 dX2_loseRamschWith_0 rfl rfl ?_
  refine zg_RX2_16 4 j hj X (w := zuP u j) rfl dX2_loseRamschWith_1 rfl ?_
  refine zj_iload_n 5 X 1 dX2_loseRamschWith_4 rfl rfl ?_
  refine zj_icmp_ne 8 18 X dX2_loseRamschWith_5 (by decide) rfl (fun c1 => ?_) (fun c1 => ?_)
  · rw [if_neg c1] at hv
    exact ze_vm (Wd := zS C a) (u := u) X Y hv dX2_loseRamschWith_18
  · rw [if_pos c1] at hv
    refine zj_aload_n 9 X 0 dX2_loseRamschWith_8 rfl rfl ?_
    refine zj_dup 10 X dX2_loseRamschWith_9 rfl rfl ?_
    refine zg_RX2_31 13 j hj X (w := zuO u j) rfl dX2_loseRamschWith_10 rfl ?_
    refine zj_iload_n 14 X 1 dX2_loseRamschWith_13 rfl rfl ?_
    refine zj_isub 15 X dX2_loseRamschWith_14 rfl ?_
    refine zp_RX2_31 18 j hj X (zD_S _ hD) dX2_loseRamschWith_15 rfl ?_
    exact ze_vm (Wd := zS C a) (u := zuO1 u j ((zuO u j) - p0)) X Y hv dX2_loseRamschWith_18
def zf_X3_clear (u : zU) : zU := zusZ u 0
abbrev zR_X3_clear : Room := { frames := 0, cells := 0, slots := 0, locals := 0 }
set_option maxHeartbeats 4000000 in
set_option maxRecDepth 100000 in
theorem zc_X3_clear {l : Launch} {D : va_G} {C : ClassId × ClassId} {a : Nat → Nat} {u : zU} : zk_Mm l yX3_clear cX3_clear 1 none zR_X3_clear [.ref (a 4)] (zS C a u) D C (fun A => va_Qv (fun u' => u' = zf_X3_clear u) (fun u' t => va_P D vwCl (zS C a u') t.heap) A) := by
  refine zk_mm (by decide) (Nat.le_of_ble_eq_true rfl) ?_
  intro p e s m below meth c A X Y hD hA
  generalize hv : zf_X3_clear u = V
  unfold zf_X3_clear at hv
  show zJ _ _ _ _ _ _ _ _ _ _ _ _ _ _ _ _ _ 0 [(0, .ref (a 4))] []
  refine zj_aload_n 1 X 0 dX3_clear_0 rfl rfl ?_
  refine zj_iconst 2 X (v := 0) dX3_clear_1 (by decide) rfl ?_
  refine zp_RX3_15 5 X (zD_S _ hD) dX3_clear_2 rfl ?_
  exact ze_vm (Wd := zS C a) (u := zusZ u 0) X Y hv dX3_clear_5
def zf_X3_add (u : zU) (p0 : Int32) : zU := if (zuZ u) < 0 then u else (if 3 ≤ (zuZ u) then u else zusZ (zuR1 u ((zuZ u).toNatClampNeg) p0) ((zuZ u) + 1))
abbrev zR_X3_add : Room := { frames := 0, cells := 0, slots := 0, locals := 0 }
set_option maxHeartbeats 4000000 in
set_option maxRecDepth 100000 in
theorem zc_X3_add {l : Launch} {D : va_G} {C : ClassId × ClassId} {a : Nat → Nat} {u : zU} {p0 : Int32} : zk_Mm l yX3_add cX3_add 2 none zR_X3_add [.ref (a 4), .int (p0)] (zS C a u) D C (fun A => va_Qv (fun u' => u' = zf_X3_add u p0) (fun u' t => va_P D vwCl (zS C a u') t.heap) A) := by
  refine zk_mm (by decide) (Nat.le_of_ble_eq_true rfl) ?_
  intro p e s m below meth c A X Y hD hA
  generalize hv : zf_X3_add u p0 = V
  unfold zf_X3_add at hv
  show zJ _ _ _ _ _ _ _ _ _ _ _ _ _ _ _ _ _ 0 [(0, .ref (a 4)), (1, .int (p0))] []
  refine zj_aload_n 1 X 0 dX3_add_0 rfl rfl ?_
  refine zg_RX3_15 4 X (w := zuZ u) rfl dX3_add_1 rfl ?_
  refine zj_if_lt 7 39 X dX3_add_4 (by decide) rfl (fun c1 => ?_) (fun c1 => ?_)
  · rw [if_pos c1] at hv
    exact ze_vm (Wd := zS C a) (u := u) X Y hv dX3_add_39
  · rw [if_neg c1] at hv
    refine zj_aload_n 8 X 0 dX3_add_7 rfl rfl ?_
    refine zg_RX3_15 11 X (w := zuZ u) rfl dX3_add_8 rfl ?_
    refine zj_aload_n 12 X 0 dX3_add_11 rfl rfl ?_
    refine zg_RX3_9 15 X dX3_add_12 rfl ?_
    refine zn_S_row 16 X dX3_add_15 rfl ?_
    refine zj_icmp_ge 19 39 X dX3_add_16 (by decide) rfl (fun c2 => ?_) (fun c2 => ?_)
    · rw [if_pos c2] at hv
      exact ze_vm (Wd := zS C a) (u := u) X Y hv dX3_add_39
    · rw [if_neg c2] at hv
      refine zj_aload_n 20 X 0 dX3_add_19 rfl rfl ?_
      refine zg_RX3_9 23 X dX3_add_20 rfl ?_
      refine zj_aload_n 24 X 0 dX3_add_23 rfl rfl ?_
      refine zg_RX3_15 27 X (w := zuZ u) rfl dX3_add_24 rfl ?_
      refine zj_iload_n 28 X 1 dX3_add_27 rfl rfl ?_
      refine zt_S_row 29 X (zD_S _ hD) (zin_lo (n := 3) c1 (Int32.not_le.mp c2) (by decide)) dX3_add_28 rfl ?_
      refine zj_aload_n 30 X 0 dX3_add_29 rfl rfl ?_
      refine zj_dup 31 X dX3_add_30 rfl rfl ?_
      refine zg_RX3_15 34 X (w := zuZ u) rfl dX3_add_31 rfl ?_
      refine zj_iconst 35 X (v := 1) dX3_add_34 (by decide) rfl ?_
      refine zj_iadd 36 X dX3_add_35 rfl ?_
      refine zp_RX3_15 39 X (zD_S _ hD) dX3_add_36 rfl ?_
      exact ze_vm (Wd := zS C a) (u := zusZ (zuR1 u ((zuZ u).toNatClampNeg) p0) ((zuZ u) + 1)) X Y hv dX3_add_39
def zf_X3_isEmpty (u : zU) : Int32 := if (zuZ u) = 0 then 1 else 0
abbrev zR_X3_isEmpty : Room := { frames := 0, cells := 0, slots := 0, locals := 0 }
set_option maxHeartbeats 4000000 in
set_option maxRecDepth 100000 in
theorem zc_X3_isEmpty {l : Launch} {D : va_G} {C : ClassId × ClassId} {a : Nat → Nat} {u : zU} : zk_Mp l yX3_isEmpty cX3_isEmpty 1 (some .boolean) zR_X3_isEmpty [.ref (a 4)] (zS C a u) D C (vp_Si (fun r => r = zf_X3_isEmpty u)) := by
  refine zk_mp (by decide) (Nat.le_of_ble_eq_true rfl) ?_
  intro p e s m below meth c X Y
  generalize hv : zf_X3_isEmpty u = V
  unfold zf_X3_isEmpty at hv
  show zJ _ _ _ _ _ _ _ _ _ _ _ _ _ _ _ _ _ 0 [(0, .ref (a 4))] []
  refine zj_aload_n 1 X 0 dX3_isEmpty_0 rfl rfl ?_
  refine zg_RX3_15 4 X (w := zuZ u) rfl dX3_isEmpty_1 rfl ?_
  refine zj_if_ne 7 11 X dX3_isEmpty_4 (by decide) rfl (fun c1 => ?_) (fun c1 => ?_)
  · rw [if_neg c1] at hv
    refine zj_iconst 12 X (v := 0) dX3_isEmpty_11 (by decide) rfl ?_
    exact ze_z X Y (by decide) hv dX3_isEmpty_12
  · rw [if_pos c1] at hv
    refine zj_iconst 8 X (v := 1) dX3_isEmpty_7 (by decide) rfl ?_
    refine zj_goto 12 X dX3_isEmpty_8 (by decide) ?_
    exact ze_z X Y (by decide) hv dX3_isEmpty_12
def zf_X3_isComplete (u : zU) : Int32 := if (zuZ u) = 3 then 1 else 0
abbrev zR_X3_isComplete : Room := { frames := 0, cells := 0, slots := 0, locals := 0 }
set_option maxHeartbeats 4000000 in
set_option maxRecDepth 100000 in
theorem zc_X3_isComplete {l : Launch} {D : va_G} {C : ClassId × ClassId} {a : Nat → Nat} {u : zU} : zk_Mp l yX3_isComplete cX3_isComplete 1 (some .boolean) zR_X3_isComplete [.ref (a 4)] (zS C a u) D C (vp_Si (fun r => r = zf_X3_isComplete u)) := by
  refine zk_mp (by decide) (Nat.le_of_ble_eq_true rfl) ?_
  intro p e s m below meth c X Y
  generalize hv : zf_X3_isComplete u = V
  unfold zf_X3_isComplete at hv
  show zJ _ _ _ _ _ _ _ _ _ _ _ _ _ _ _ _ _ 0 [(0, .ref (a 4))] []
  refine zj_aload_n 1 X 0 dX3_isComplete_0 rfl rfl ?_
  refine zg_RX3_15 4 X (w := zuZ u) rfl dX3_isComplete_1 rfl ?_
  refine zj_aload_n 5 X 0 dX3_isComplete_4 rfl rfl ?_
  refine zg_RX3_9 8 X dX3_isComplete_5 rfl ?_
  refine zn_S_row 9 X dX3_isComplete_8 rfl ?_
  refine zj_icmp_ne 12 16 X dX3_isComplete_9 (by decide) rfl (fun c1 => ?_) (fun c1 => ?_)
  · rw [if_neg c1] at hv
    refine zj_iconst 17 X (v := 0) dX3_isComplete_16 (by decide) rfl ?_
    exact ze_z X Y (by decide) hv dX3_isComplete_17
  · rw [if_pos c1] at hv
    refine zj_iconst 13 X (v := 1) dX3_isComplete_12 (by decide) rfl ?_
    refine zj_goto 17 X dX3_isComplete_13 (by decide) ?_
    exact ze_z X Y (by decide) hv dX3_isComplete_17
theorem zcomp {u : zU} (h : ¬ zf_X3_isComplete u = 0) : zuZ u = 3 := by
  unfold zf_X3_isComplete at h
  split at h
  · assumption
  · exact absurd rfl h
def zf_X3_cardAt (u : zU) (p0 : Int32) : Int32 := if p0 < 0 then (-1) else (if (zuZ u) ≤ p0 then (-1) else (if 3 ≤ p0 then (-1) else zuR u p0.toNatClampNeg))
abbrev zR_X3_cardAt : Room := { frames := 0, cells := 0, slots := 0, locals := 0 }
set_option maxHeartbeats 4000000 in
set_option maxRecDepth 100000 in
theorem zc_X3_cardAt {l : Launch} {D : va_G} {C : ClassId × ClassId} {a : Nat → Nat} {u : zU} {p0 : Int32} : zk_Mp l yX3_cardAt cX3_cardAt 2 (some .int) zR_X3_cardAt [.ref (a 4), .int (p0)] (zS C a u) D C (vp_Si (fun r => r = zf_X3_cardAt u p0)) := by
  refine zk_mp (by decide) (Nat.le_of_ble_eq_true rfl) ?_
  intro p e s m below meth c X Y
  generalize hv : zf_X3_cardAt u p0 = V
  unfold zf_X3_cardAt at hv
  show zJ _ _ _ _ _ _ _ _ _ _ _ _ _ _ _ _ _ 0 [(0, .ref (a 4)), (1, .int (p0))] []
  refine zj_iload_n 1 X 1 dX3_cardAt_0 rfl rfl ?_
  refine zj_if_lt 4 30 X dX3_cardAt_1 (by decide) rfl (fun c1 => ?_) (fun c1 => ?_)
  · rw [if_pos c1] at hv
    refine zj_iconst 31 X (v := (-1)) dX3_cardAt_30 (by decide) rfl ?_
    exact ze_i X Y hv dX3_cardAt_31
  · rw [if_neg c1] at hv
    refine zj_iload_n 5 X 1 dX3_cardAt_4 rfl rfl ?_
    refine zj_aload_n 6 X 0 dX3_cardAt_5 rfl rfl ?_
    refine zg_RX3_15 9 X (w := zuZ u) rfl dX3_cardAt_6 rfl ?_
    refine zj_icmp_ge 12 30 X dX3_cardAt_9 (by decide) rfl (fun c2 => ?_) (fun c2 => ?_)
    · rw [if_pos c2] at hv
      refine zj_iconst 31 X (v := (-1)) dX3_cardAt_30 (by decide) rfl ?_
      exact ze_i X Y hv dX3_cardAt_31
    · rw [if_neg c2] at hv
      refine zj_iload_n 13 X 1 dX3_cardAt_12 rfl rfl ?_
      refine zj_aload_n 14 X 0 dX3_cardAt_13 rfl rfl ?_
      refine zg_RX3_9 17 X dX3_cardAt_14 rfl ?_
      refine zn_S_row 18 X dX3_cardAt_17 rfl ?_
      refine zj_icmp_ge 21 30 X dX3_cardAt_18 (by decide) rfl (fun c3 => ?_) (fun c3 => ?_)
      · rw [if_pos c3] at hv
        refine zj_iconst 31 X (v := (-1)) dX3_cardAt_30 (by decide) rfl ?_
        exact ze_i X Y hv dX3_cardAt_31
      · rw [if_neg c3] at hv
        refine zj_aload_n 22 X 0 dX3_cardAt_21 rfl rfl ?_
        refine zg_RX3_9 25 X dX3_cardAt_22 rfl ?_
        refine zj_iload_n 26 X 1 dX3_cardAt_25 rfl rfl ?_
        refine zl_S_row 27 X (w := zuR u p0.toNatClampNeg) rfl (zin_lo (n := 3) c1 (Int32.not_le.mp c3) (by decide)) dX3_cardAt_26 rfl ?_
        refine zj_goto 31 X dX3_cardAt_27 (by decide) ?_
        exact ze_i X Y hv dX3_cardAt_31
def zf_X3_sumOfPoints (u : zU) : Int32 := ((0 + (zf_X1_pointsOf (zf_X3_cardAt u 0))) + (zf_X1_pointsOf (zf_X3_cardAt u 1))) + (zf_X1_pointsOf (zf_X3_cardAt u 2))
abbrev zR_X3_sumOfPoints : Room := { frames := 2, cells := 0, slots := 0, locals := 41 }
set_option maxHeartbeats 4000000 in
set_option maxRecDepth 100000 in
theorem zc_X3_sumOfPoints {l : Launch} {D : va_G} {C : ClassId × ClassId} {a : Nat → Nat} {u : zU} (hZ : zuZ u = 3) : zk_Mp l yX3_sumOfPoints cX3_sumOfPoints 3 (some .int) zR_X3_sumOfPoints [.ref (a 4)] (zS C a u) D C (vp_Si (fun r => r = zf_X3_sumOfPoints u)) := by
  refine zk_mp (by decide) (Nat.le_of_ble_eq_true rfl) ?_
  intro p e s m below meth c X Y
  generalize hv : zf_X3_sumOfPoints u = V
  unfold zf_X3_sumOfPoints at hv
  show zJ _ _ _ _ _ _ _ _ _ _ _ _ _ _ _ _ _ 0 [(0, .ref (a 4))] []
  refine zj_iconst 1 X (v := 0) dX3_sumOfPoints_0 (by decide) rfl ?_
  refine zj_istore_n 2 X (lv1 := [(0, .ref (a 4)), (1, .int (0))]) [1, 0] dX3_sumOfPoints_1 (by decide) rfl rfl ?_
  refine zj_iconst 3 X (v := 0) dX3_sumOfPoints_2 (by decide) rfl ?_
  refine zj_istore_n 4 X (lv1 := [(0, .ref (a 4)), (1, .int (0)), (2, .int (0))]) [1, 2, 0] dX3_sumOfPoints_3 (by decide) rfl rfl ?_
  refine zj_iload_n 5 X 2 dX3_sumOfPoints_4 rfl rfl ?_
  refine zj_aload_n 6 X 0 dX3_sumOfPoints_5 rfl rfl ?_
  refine zg_RX3_15 9 X (w := 3) hZ dX3_sumOfPoints_6 rfl ?_
  refine zj_icmp_ge 12 29 X dX3_sumOfPoints_9 (by decide) rfl (fun c1 => absurd c1 (by decide)) (fun _ => ?_)
  refine zj_iload_n 13 X 1 dX3_sumOfPoints_12 rfl rfl ?_
  refine zj_aload_n 14 X 0 dX3_sumOfPoints_13 rfl rfl ?_
  refine zj_iload_n 15 X 2 dX3_sumOfPoints_14 rfl rfl ?_
  refine zc_i 18 (zr_V (As := [.int (0)]) (rest := [.int (0)]) X (zc_X3_cardAt (l := l) (p0 := 0) (u := u)) zw_X3_19 zn_X3_cardAt (zcR_of rfl) zO_S4 zsI rfl (Nat.le_of_ble_eq_true rfl) dX3_sumOfPoints_15) rfl ?_
  refine zc_i 21 (zr_SN (As := [.int (zf_X3_cardAt u 0)]) (rest := [.int (0)]) X (zc_X1_pointsOf (l := l) (p0 := zf_X3_cardAt u 0)) zw_X3_23 zn_X1_pointsOf (zcR_of rfl) zs0 rfl (Nat.le_of_ble_eq_true rfl) dX3_sumOfPoints_18) rfl ?_
  refine zj_iadd 22 X dX3_sumOfPoints_21 rfl ?_
  refine zj_istore_n 23 X (lv1 := [(0, .ref (a 4)), (1, .int (0 + (zf_X1_pointsOf (zf_X3_cardAt u 0)))), (2, .int (0))]) [1, 0, 2] dX3_sumOfPoints_22 (by decide) rfl rfl ?_
  refine zj_iinc 26 X (v := 1) (lv1 := [(0, .ref (a 4)), (1, .int (0 + (zf_X1_pointsOf (zf_X3_cardAt u 0)))), (2, .int (1))]) 2 [1, 2, 0] dX3_sumOfPoints_23 rfl (by decide) (by decide) rfl rfl ?_
  refine zj_goto 4 X dX3_sumOfPoints_26 (by decide) ?_
  refine zj_iload_n 5 X 2 dX3_sumOfPoints_4 rfl rfl ?_
  refine zj_aload_n 6 X 0 dX3_sumOfPoints_5 rfl rfl ?_
  refine zg_RX3_15 9 X (w := 3) hZ dX3_sumOfPoints_6 rfl ?_
  refine zj_icmp_ge 12 29 X dX3_sumOfPoints_9 (by decide) rfl (fun c2 => absurd c2 (by decide)) (fun _ => ?_)
  refine zj_iload_n 13 X 1 dX3_sumOfPoints_12 rfl rfl ?_
  refine zj_aload_n 14 X 0 dX3_sumOfPoints_13 rfl rfl ?_
  refine zj_iload_n 15 X 2 dX3_sumOfPoints_14 rfl rfl ?_
  refine zc_i 18 (zr_V (As := [.int (1)]) (rest := [.int (0 + (zf_X1_pointsOf (zf_X3_cardAt u 0)))]) X (zc_X3_cardAt (l := l) (p0 := 1) (u := u)) zw_X3_19 zn_X3_cardAt (zcR_of rfl) zO_S4 zsI rfl (Nat.le_of_ble_eq_true rfl) dX3_sumOfPoints_15) rfl ?_
  refine zc_i 21 (zr_SN (As := [.int (zf_X3_cardAt u 1)]) (rest := [.int (0 + (zf_X1_pointsOf (zf_X3_cardAt u 0)))]) X (zc_X1_pointsOf (l := l) (p0 := zf_X3_cardAt u 1)) zw_X3_23 zn_X1_pointsOf (zcR_of rfl) zs0 rfl (Nat.le_of_ble_eq_true rfl) dX3_sumOfPoints_18) rfl ?_
  refine zj_iadd 22 X dX3_sumOfPoints_21 rfl ?_
  refine zj_istore_n 23 X (lv1 := [(0, .ref (a 4)), (1, .int ((0 + (zf_X1_pointsOf (zf_X3_cardAt u 0))) + (zf_X1_pointsOf (zf_X3_cardAt u 1)))), (2, .int (1))]) [1, 0, 2] dX3_sumOfPoints_22 (by decide) rfl rfl ?_
  refine zj_iinc 26 X (v := 2) (lv1 := [(0, .ref (a 4)), (1, .int ((0 + (zf_X1_pointsOf (zf_X3_cardAt u 0))) + (zf_X1_pointsOf (zf_X3_cardAt u 1)))), (2, .int (2))]) 2 [1, 2, 0] dX3_sumOfPoints_23 rfl (by decide) (by decide) rfl rfl ?_
  refine zj_goto 4 X dX3_sumOfPoints_26 (by decide) ?_
  refine zj_iload_n 5 X 2 dX3_sumOfPoints_4 rfl rfl ?_
  refine zj_aload_n 6 X 0 dX3_sumOfPoints_5 rfl rfl ?_
  refine zg_RX3_15 9 X (w := 3) hZ dX3_sumOfPoints_6 rfl ?_
  refine zj_icmp_ge 12 29 X dX3_sumOfPoints_9 (by decide) rfl (fun c3 => absurd c3 (by decide)) (fun _ => ?_)
  refine zj_iload_n 13 X 1 dX3_sumOfPoints_12 rfl rfl ?_
  refine zj_aload_n 14 X 0 dX3_sumOfPoints_13 rfl rfl ?_
  refine zj_iload_n 15 X 2 dX3_sumOfPoints_14 rfl rfl ?_
  refine zc_i 18 (zr_V (As := [.int (2)]) (rest := [.int ((0 + (zf_X1_pointsOf (zf_X3_cardAt u 0))) + (zf_X1_pointsOf (zf_X3_cardAt u 1)))]) X (zc_X3_cardAt (l := l) (p0 := 2) (u := u)) zw_X3_19 zn_X3_cardAt (zcR_of rfl) zO_S4 zsI rfl (Nat.le_of_ble_eq_true rfl) dX3_sumOfPoints_15) rfl ?_
  refine zc_i 21 (zr_SN (As := [.int (zf_X3_cardAt u 2)]) (rest := [.int ((0 + (zf_X1_pointsOf (zf_X3_cardAt u 0))) + (zf_X1_pointsOf (zf_X3_cardAt u 1)))]) X (zc_X1_pointsOf (l := l) (p0 := zf_X3_cardAt u 2)) zw_X3_23 zn_X1_pointsOf (zcR_of rfl) zs0 rfl (Nat.le_of_ble_eq_true rfl) dX3_sumOfPoints_18) rfl ?_
  refine zj_iadd 22 X dX3_sumOfPoints_21 rfl ?_
  refine zj_istore_n 23 X (lv1 := [(0, .ref (a 4)), (1, .int (((0 + (zf_X1_pointsOf (zf_X3_cardAt u 0))) + (zf_X1_pointsOf (zf_X3_cardAt u 1))) + (zf_X1_pointsOf (zf_X3_cardAt u 2)))), (2, .int (2))]) [1, 0, 2] dX3_sumOfPoints_22 (by decide) rfl rfl ?_
  refine zj_iinc 26 X (v := 3) (lv1 := [(0, .ref (a 4)), (1, .int (((0 + (zf_X1_pointsOf (zf_X3_cardAt u 0))) + (zf_X1_pointsOf (zf_X3_cardAt u 1))) + (zf_X1_pointsOf (zf_X3_cardAt u 2)))), (2, .int (3))]) 2 [1, 2, 0] dX3_sumOfPoints_23 rfl (by decide) (by decide) rfl rfl ?_
  refine zj_goto 4 X dX3_sumOfPoints_26 (by decide) ?_
  refine zj_iload_n 5 X 2 dX3_sumOfPoints_4 rfl rfl ?_
  refine zj_aload_n 6 X 0 dX3_sumOfPoints_5 rfl rfl ?_
  refine zg_RX3_15 9 X (w := 3) hZ dX3_sumOfPoints_6 rfl ?_
  refine zj_icmp_ge 12 29 X dX3_sumOfPoints_9 (by decide) rfl (fun _ => ?_) (fun c4 => absurd c4 (by decide))
  refine zj_iload_n 30 X 1 dX3_sumOfPoints_29 rfl rfl ?_
  exact ze_i X Y hv dX3_sumOfPoints_30
def zf_X3_winningPlace (u : zU) (p0 : Int32) : Int32 := if (zf_X1_strength (zf_X3_cardAt u 1) (zf_X3_cardAt u 0) p0) ≤ (zf_X1_strength (zf_X3_cardAt u 0) (zf_X3_cardAt u 0) p0) then (if (zf_X1_strength (zf_X3_cardAt u 2) (zf_X3_cardAt u 0) p0) ≤ (zf_X1_strength (zf_X3_cardAt u 0) (zf_X3_cardAt u 0) p0) then 0 else 2) else (if (zf_X1_strength (zf_X3_cardAt u 2) (zf_X3_cardAt u 0) p0) ≤ (zf_X1_strength (zf_X3_cardAt u 1) (zf_X3_cardAt u 0) p0) then 1 else 2)
abbrev zR_X3_winningPlace : Room := { frames := 4, cells := 0, slots := 0, locals := 85 }
set_option maxHeartbeats 4000000 in
set_option maxRecDepth 100000 in
theorem zc_X3_winningPlace {l : Launch} {D : va_G} {C : ClassId × ClassId} {a : Nat → Nat} {u : zU} {p0 : Int32} (hZ : zuZ u = 3) : zk_Mp l yX3_winningPlace cX3_winningPlace 5 (some .int) zR_X3_winningPlace [.ref (a 4), .int (p0)] (zS C a u) D C (vp_Si (fun r => r = zf_X3_winningPlace u p0)) := by
  refine zk_mp (by decide) (Nat.le_of_ble_eq_true rfl) ?_
  intro p e s m below meth c X Y
  generalize hv : zf_X3_winningPlace u p0 = V
  unfold zf_X3_winningPlace at hv
  show zJ _ _ _ _ _ _ _ _ _ _ _ _ _ _ _ _ _ 0 [(0, .ref (a 4)), (1, .int (p0))] []
  refine zj_aload_n 1 X 0 dX3_winningPlace_0 rfl rfl ?_
  refine zj_iconst 2 X (v := 0) dX3_winningPlace_1 (by decide) rfl ?_
  refine zc_i 5 (zr_V (As := [.int (0)]) (rest := []) X (zc_X3_cardAt (l := l) (p0 := 0) (u := u)) zw_X3_19 zn_X3_cardAt (zcR_of rfl) zO_S4 zsI rfl (Nat.le_of_ble_eq_true rfl) dX3_winningPlace_2) rfl ?_
  refine zj_istore_n 6 X (lv1 := [(0, .ref (a 4)), (1, .int (p0)), (2, .int (zf_X3_cardAt u 0))]) [1, 2, 0] dX3_winningPlace_5 (by decide) rfl rfl ?_
  refine zj_iconst 7 X (v := 0) dX3_winningPlace_6 (by decide) rfl ?_
  refine zj_istore_n 8 X (lv1 := [(0, .ref (a 4)), (1, .int (p0)), (2, .int (zf_X3_cardAt u 0)), (3, .int (0))]) [1, 2, 3, 0] dX3_winningPlace_7 (by decide) rfl rfl ?_
  refine zj_iconst 9 X (v := 1) dX3_winningPlace_8 (by decide) rfl ?_
  refine zj_istore 11 X (lv1 := [(0, .ref (a 4)), (1, .int (p0)), (2, .int (zf_X3_cardAt u 0)), (3, .int (0)), (4, .int (1))]) [1, 2, 3, 4, 0] dX3_winningPlace_9 (by decide) rfl rfl ?_
  refine zj_iload 13 X 4 dX3_winningPlace_11 rfl rfl ?_
  refine zj_aload_n 14 X 0 dX3_winningPlace_13 rfl rfl ?_
  refine zg_RX3_15 17 X (w := 3) hZ dX3_winningPlace_14 rfl ?_
  refine zj_icmp_ge 20 53 X dX3_winningPlace_17 (by decide) rfl (fun c1 => absurd c1 (by decide)) (fun _ => ?_)
  refine zj_aload_n 21 X 0 dX3_winningPlace_20 rfl rfl ?_
  refine zj_iload 23 X 4 dX3_winningPlace_21 rfl rfl ?_
  refine zc_i 26 (zr_V (As := [.int (1)]) (rest := []) X (zc_X3_cardAt (l := l) (p0 := 1) (u := u)) zw_X3_19 zn_X3_cardAt (zcR_of rfl) zO_S4 zsI rfl (Nat.le_of_ble_eq_true rfl) dX3_winningPlace_23) rfl ?_
  refine zj_iload_n 27 X 2 dX3_winningPlace_26 rfl rfl ?_
  refine zj_iload_n 28 X 1 dX3_winningPlace_27 rfl rfl ?_
  refine zc_i 31 (zr_SN (As := [.int (zf_X3_cardAt u 1), .int (zf_X3_cardAt u 0), .int (p0)]) (rest := []) X (zc_X1_strength (l := l) (p0 := zf_X3_cardAt u 1) (p1 := zf_X3_cardAt u 0) (p2 := p0)) zw_X3_28 zn_X1_strength (zcR_of rfl) zs0 rfl (Nat.le_of_ble_eq_true rfl) dX3_winningPlace_28) rfl ?_
  refine zj_aload_n 32 X 0 dX3_winningPlace_31 rfl rfl ?_
  refine zj_iload_n 33 X 3 dX3_winningPlace_32 rfl rfl ?_
  refine zc_i 36 (zr_V (As := [.int (0)]) (rest := [.int (zf_X1_strength (zf_X3_cardAt u 1) (zf_X3_cardAt u 0) p0)]) X (zc_X3_cardAt (l := l) (p0 := 0) (u := u)) zw_X3_19 zn_X3_cardAt (zcR_of rfl) zO_S4 zsI rfl (Nat.le_of_ble_eq_true rfl) dX3_winningPlace_33) rfl ?_
  refine zj_iload_n 37 X 2 dX3_winningPlace_36 rfl rfl ?_
  refine zj_iload_n 38 X 1 dX3_winningPlace_37 rfl rfl ?_
  refine zc_i 41 (zr_SN (As := [.int (zf_X3_cardAt u 0), .int (zf_X3_cardAt u 0), .int (p0)]) (rest := [.int (zf_X1_strength (zf_X3_cardAt u 1) (zf_X3_cardAt u 0) p0)]) X (zc_X1_strength (l := l) (p0 := zf_X3_cardAt u 0) (p1 := zf_X3_cardAt u 0) (p2 := p0)) zw_X3_28 zn_X1_strength (zcR_of rfl) zs0 rfl (Nat.le_of_ble_eq_true rfl) dX3_winningPlace_38) rfl ?_
  refine zj_icmp_le 44 47 X dX3_winningPlace_41 (by decide) rfl (fun c2 => ?_) (fun c2 => ?_)
  · rw [if_pos c2] at hv
    refine zj_iinc 50 X (v := 2) (lv1 := [(0, .ref (a 4)), (1, .int (p0)), (2, .int (zf_X3_cardAt u 0)), (3, .int (0)), (4, .int (2))]) 4 [1, 2, 3, 4, 0] dX3_winningPlace_47 rfl (by decide) (by decide) rfl rfl ?_
    refine zj_goto 11 X dX3_winningPlace_50 (by decide) ?_
    refine zj_iload 13 X 4 dX3_winningPlace_11 rfl rfl ?_
    refine zj_aload_n 14 X 0 dX3_winningPlace_13 rfl rfl ?_
    refine zg_RX3_15 17 X (w := 3) hZ dX3_winningPlace_14 rfl ?_
    refine zj_icmp_ge 20 53 X dX3_winningPlace_17 (by decide) rfl (fun c3 => absurd c3 (by decide)) (fun _ => ?_)
    refine zj_aload_n 21 X 0 dX3_winningPlace_20 rfl rfl ?_
    refine zj_iload 23 X 4 dX3_winningPlace_21 rfl rfl ?_
    refine zc_i 26 (zr_V (As := [.int (2)]) (rest := []) X (zc_X3_cardAt (l := l) (p0 := 2) (u := u)) zw_X3_19 zn_X3_cardAt (zcR_of rfl) zO_S4 zsI rfl (Nat.le_of_ble_eq_true rfl) dX3_winningPlace_23) rfl ?_
    refine zj_iload_n 27 X 2 dX3_winningPlace_26 rfl rfl ?_
    refine zj_iload_n 28 X 1 dX3_winningPlace_27 rfl rfl ?_
    refine zc_i 31 (zr_SN (As := [.int (zf_X3_cardAt u 2), .int (zf_X3_cardAt u 0), .int (p0)]) (rest := []) X (zc_X1_strength (l := l) (p0 := zf_X3_cardAt u 2) (p1 := zf_X3_cardAt u 0) (p2 := p0)) zw_X3_28 zn_X1_strength (zcR_of rfl) zs0 rfl (Nat.le_of_ble_eq_true rfl) dX3_winningPlace_28) rfl ?_
    refine zj_aload_n 32 X 0 dX3_winningPlace_31 rfl rfl ?_
    refine zj_iload_n 33 X 3 dX3_winningPlace_32 rfl rfl ?_
    refine zc_i 36 (zr_V (As := [.int (0)]) (rest := [.int (zf_X1_strength (zf_X3_cardAt u 2) (zf_X3_cardAt u 0) p0)]) X (zc_X3_cardAt (l := l) (p0 := 0) (u := u)) zw_X3_19 zn_X3_cardAt (zcR_of rfl) zO_S4 zsI rfl (Nat.le_of_ble_eq_true rfl) dX3_winningPlace_33) rfl ?_
    refine zj_iload_n 37 X 2 dX3_winningPlace_36 rfl rfl ?_
    refine zj_iload_n 38 X 1 dX3_winningPlace_37 rfl rfl ?_
    refine zc_i 41 (zr_SN (As := [.int (zf_X3_cardAt u 0), .int (zf_X3_cardAt u 0), .int (p0)]) (rest := [.int (zf_X1_strength (zf_X3_cardAt u 2) (zf_X3_cardAt u 0) p0)]) X (zc_X1_strength (l := l) (p0 := zf_X3_cardAt u 0) (p1 := zf_X3_cardAt u 0) (p2 := p0)) zw_X3_28 zn_X1_strength (zcR_of rfl) zs0 rfl (Nat.le_of_ble_eq_true rfl) dX3_winningPlace_38) rfl ?_
    refine zj_icmp_le 44 47 X dX3_winningPlace_41 (by decide) rfl (fun c4 => ?_) (fun c4 => ?_)
    · rw [if_pos c4] at hv
      refine zj_iinc 50 X (v := 3) (lv1 := [(0, .ref (a 4)), (1, .int (p0)), (2, .int (zf_X3_cardAt u 0)), (3, .int (0)), (4, .int (3))]) 4 [1, 2, 3, 4, 0] dX3_winningPlace_47 rfl (by decide) (by decide) rfl rfl ?_
      refine zj_goto 11 X dX3_winningPlace_50 (by decide) ?_
      refine zj_iload 13 X 4 dX3_winningPlace_11 rfl rfl ?_
      refine zj_aload_n 14 X 0 dX3_winningPlace_13 rfl rfl ?_
      refine zg_RX3_15 17 X (w := 3) hZ dX3_winningPlace_14 rfl ?_
      refine zj_icmp_ge 20 53 X dX3_winningPlace_17 (by decide) rfl (fun _ => ?_) (fun c5 => absurd c5 (by decide))
      refine zj_iload_n 54 X 3 dX3_winningPlace_53 rfl rfl ?_
      exact ze_i X Y hv dX3_winningPlace_54
    · rw [if_neg c4] at hv
      refine zj_iload 46 X 4 dX3_winningPlace_44 rfl rfl ?_
      refine zj_istore_n 47 X (lv1 := [(0, .ref (a 4)), (1, .int (p0)), (2, .int (zf_X3_cardAt u 0)), (3, .int (2)), (4, .int (2))]) [1, 2, 3, 0, 4] dX3_winningPlace_46 (by decide) rfl rfl ?_
      refine zj_iinc 50 X (v := 3) (lv1 := [(0, .ref (a 4)), (1, .int (p0)), (2, .int (zf_X3_cardAt u 0)), (3, .int (2)), (4, .int (3))]) 4 [1, 2, 3, 4, 0] dX3_winningPlace_47 rfl (by decide) (by decide) rfl rfl ?_
      refine zj_goto 11 X dX3_winningPlace_50 (by decide) ?_
      refine zj_iload 13 X 4 dX3_winningPlace_11 rfl rfl ?_
      refine zj_aload_n 14 X 0 dX3_winningPlace_13 rfl rfl ?_
      refine zg_RX3_15 17 X (w := 3) hZ dX3_winningPlace_14 rfl ?_
      refine zj_icmp_ge 20 53 X dX3_winningPlace_17 (by decide) rfl (fun _ => ?_) (fun c6 => absurd c6 (by decide))
      refine zj_iload_n 54 X 3 dX3_winningPlace_53 rfl rfl ?_
      exact ze_i X Y hv dX3_winningPlace_54
  · rw [if_neg c2] at hv
    refine zj_iload 46 X 4 dX3_winningPlace_44 rfl rfl ?_
    refine zj_istore_n 47 X (lv1 := [(0, .ref (a 4)), (1, .int (p0)), (2, .int (zf_X3_cardAt u 0)), (3, .int (1)), (4, .int (1))]) [1, 2, 3, 0, 4] dX3_winningPlace_46 (by decide) rfl rfl ?_
    refine zj_iinc 50 X (v := 2) (lv1 := [(0, .ref (a 4)), (1, .int (p0)), (2, .int (zf_X3_cardAt u 0)), (3, .int (1)), (4, .int (2))]) 4 [1, 2, 3, 4, 0] dX3_winningPlace_47 rfl (by decide) (by decide) rfl rfl ?_
    refine zj_goto 11 X dX3_winningPlace_50 (by decide) ?_
    refine zj_iload 13 X 4 dX3_winningPlace_11 rfl rfl ?_
    refine zj_aload_n 14 X 0 dX3_winningPlace_13 rfl rfl ?_
    refine zg_RX3_15 17 X (w := 3) hZ dX3_winningPlace_14 rfl ?_
    refine zj_icmp_ge 20 53 X dX3_winningPlace_17 (by decide) rfl (fun c7 => absurd c7 (by decide)) (fun _ => ?_)
    refine zj_aload_n 21 X 0 dX3_winningPlace_20 rfl rfl ?_
    refine zj_iload 23 X 4 dX3_winningPlace_21 rfl rfl ?_
    refine zc_i 26 (zr_V (As := [.int (2)]) (rest := []) X (zc_X3_cardAt (l := l) (p0 := 2) (u := u)) zw_X3_19 zn_X3_cardAt (zcR_of rfl) zO_S4 zsI rfl (Nat.le_of_ble_eq_true rfl) dX3_winningPlace_23) rfl ?_
    refine zj_iload_n 27 X 2 dX3_winningPlace_26 rfl rfl ?_
    refine zj_iload_n 28 X 1 dX3_winningPlace_27 rfl rfl ?_
    refine zc_i 31 (zr_SN (As := [.int (zf_X3_cardAt u 2), .int (zf_X3_cardAt u 0), .int (p0)]) (rest := []) X (zc_X1_strength (l := l) (p0 := zf_X3_cardAt u 2) (p1 := zf_X3_cardAt u 0) (p2 := p0)) zw_X3_28 zn_X1_strength (zcR_of rfl) zs0 rfl (Nat.le_of_ble_eq_true rfl) dX3_winningPlace_28) rfl ?_
    refine zj_aload_n 32 X 0 dX3_winningPlace_31 rfl rfl ?_
    refine zj_iload_n 33 X 3 dX3_winningPlace_32 rfl rfl ?_
    refine zc_i 36 (zr_V (As := [.int (1)]) (rest := [.int (zf_X1_strength (zf_X3_cardAt u 2) (zf_X3_cardAt u 0) p0)]) X (zc_X3_cardAt (l := l) (p0 := 1) (u := u)) zw_X3_19 zn_X3_cardAt (zcR_of rfl) zO_S4 zsI rfl (Nat.le_of_ble_eq_true rfl) dX3_winningPlace_33) rfl ?_
    refine zj_iload_n 37 X 2 dX3_winningPlace_36 rfl rfl ?_
    refine zj_iload_n 38 X 1 dX3_winningPlace_37 rfl rfl ?_
    refine zc_i 41 (zr_SN (As := [.int (zf_X3_cardAt u 1), .int (zf_X3_cardAt u 0), .int (p0)]) (rest := [.int (zf_X1_strength (zf_X3_cardAt u 2) (zf_X3_cardAt u 0) p0)]) X (zc_X1_strength (l := l) (p0 := zf_X3_cardAt u 1) (p1 := zf_X3_cardAt u 0) (p2 := p0)) zw_X3_28 zn_X1_strength (zcR_of rfl) zs0 rfl (Nat.le_of_ble_eq_true rfl) dX3_winningPlace_38) rfl ?_
    refine zj_icmp_le 44 47 X dX3_winningPlace_41 (by decide) rfl (fun c8 => ?_) (fun c8 => ?_)
    · rw [if_pos c8] at hv
      refine zj_iinc 50 X (v := 3) (lv1 := [(0, .ref (a 4)), (1, .int (p0)), (2, .int (zf_X3_cardAt u 0)), (3, .int (1)), (4, .int (3))]) 4 [1, 2, 3, 4, 0] dX3_winningPlace_47 rfl (by decide) (by decide) rfl rfl ?_
      refine zj_goto 11 X dX3_winningPlace_50 (by decide) ?_
      refine zj_iload 13 X 4 dX3_winningPlace_11 rfl rfl ?_
      refine zj_aload_n 14 X 0 dX3_winningPlace_13 rfl rfl ?_
      refine zg_RX3_15 17 X (w := 3) hZ dX3_winningPlace_14 rfl ?_
      refine zj_icmp_ge 20 53 X dX3_winningPlace_17 (by decide) rfl (fun _ => ?_) (fun c9 => absurd c9 (by decide))
      refine zj_iload_n 54 X 3 dX3_winningPlace_53 rfl rfl ?_
      exact ze_i X Y hv dX3_winningPlace_54
    · rw [if_neg c8] at hv
      refine zj_iload 46 X 4 dX3_winningPlace_44 rfl rfl ?_
      refine zj_istore_n 47 X (lv1 := [(0, .ref (a 4)), (1, .int (p0)), (2, .int (zf_X3_cardAt u 0)), (3, .int (2)), (4, .int (2))]) [1, 2, 3, 0, 4] dX3_winningPlace_46 (by decide) rfl rfl ?_
      refine zj_iinc 50 X (v := 3) (lv1 := [(0, .ref (a 4)), (1, .int (p0)), (2, .int (zf_X3_cardAt u 0)), (3, .int (2)), (4, .int (3))]) 4 [1, 2, 3, 4, 0] dX3_winningPlace_47 rfl (by decide) (by decide) rfl rfl ?_
      refine zj_goto 11 X dX3_winningPlace_50 (by decide) ?_
      refine zj_iload 13 X 4 dX3_winningPlace_11 rfl rfl ?_
      refine zj_aload_n 14 X 0 dX3_winningPlace_13 rfl rfl ?_
      refine zg_RX3_15 17 X (w := 3) hZ dX3_winningPlace_14 rfl ?_
      refine zj_icmp_ge 20 53 X dX3_winningPlace_17 (by decide) rfl (fun _ => ?_) (fun c10 => absurd c10 (by decide))
      refine zj_iload_n 54 X 3 dX3_winningPlace_53 rfl rfl ?_
      exact ze_i X Y hv dX3_winningPlace_54
