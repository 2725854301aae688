def zf_X5_in (p0 : Int32) (p1 : Int32) (p2 : Int32) : Int32 := if p0 < p1 then 0 else (if p2 < p0 then 0 else 1)
abbrev zR_X5_in : Room := { frames := 0, cells := 0, slots := 0, locals := 0 }
set_option maxHeartbeats 4000000 in
set_option maxRecDepth 100000 in
theorem zc_X5_in {l : Launch} {D : va_G} {C : ClassId × ClassId} {p0 : Int32} {p1 : Int32} {p2 : Int32} : zk_Mp l yX5_in cX5_in 3 (some .boolean) zR_X5_in [.int (p0), .int (p1), .int (p2)] [] D C (vp_Si (fun r => r = zf_X5_in p0 p1 p2)) := by
  refine zk_mp (by decide) (Nat.le_of_ble_eq_true rfl) ?_
  intro p e s m below meth c X Y
  generalize hv : zf_X5_in p0 p1 p2 = V
  unfold zf_X5_in at hv
  show zJ _ _ _ _ _ _ _ _ _ _ _ _ _ _ _ _ _ 0 [(0, .int (p0)), (1, .int (p1)), (2, .int (p2))] []
  refine zj_iload_n 1 X 0 dX5_in_0 rfl rfl ?_
  refine zj_iload_n 2 X 1 dX5_in_1 rfl rfl ?_
  refine zj_icmp_lt 5 14 X dX5_in_2 (by decide) rfl (fun c1 => ?_) (fun c1 => ?_)
  · rw [if_pos c1] at hv
    refine zj_iconst 15 X (v := 0) dX5_in_14 (by decide) rfl ?_
    exact ze_z X Y (by decide) hv dX5_in_15
  · rw [if_neg c1] at hv
    refine zj_iload_n 6 X 0 dX5_in_5 rfl rfl ?_
    refine zj_iload_n 7 X 2 dX5_in_6 rfl rfl ?_
    refine zj_icmp_gt 10 14 X dX5_in_7 (by decide) rfl (fun c2 => ?_) (fun c2 => ?_)
    · rw [if_pos c2] at hv
      refine zj_iconst 15 X (v := 0) dX5_in_14 (by decide) rfl ?_
      exact ze_z X Y (by decide) hv dX5_in_15
    · rw [if_neg c2] at hv
      refine zj_iconst 11 X (v := 1) dX5_in_10 (by decide) rfl ?_
      refine zj_goto 15 X dX5_in_11 (by decide) ?_
      exact ze_z X Y (by decide) hv dX5_in_15
theorem zin_two {x : Int32} {n : Int32} (h : ¬ zf_X5_in x 0 n = 0) : 0 ≤ x.toInt ∧ x.toInt ≤ n.toInt := by
  have h1 : ¬ x < 0 := fun c => h (by unfold zf_X5_in; rw [if_pos c])
  have h2 : ¬ n < x := fun c => h (by unfold zf_X5_in; rw [if_neg h1, if_pos c])
  rw [Int32.lt_iff_toInt_lt] at h1 h2
  have z : (0 : Int32).toInt = 0 := rfl
  omega
theorem zin02 {x : Int32} (h : ¬ zf_X5_in x 0 2 = 0) : vp_in x 3 := by
  have h1 := zin_two h
  have t : (2 : Int32).toInt = 2 := rfl
  rw [vp_in_iff]
  omega
theorem zin263 {x : Int32} (h : ¬ zf_X5_in x 0 263 = 0) : x + 1 = nI (x.toNatClampNeg + 1) ∧ x.toNatClampNeg + 1 + (263 - x.toNatClampNeg) = 264 := by
  have h1 := zin_two h
  have t : (263 : Int32).toInt = 263 := rfl
  obtain ⟨j, hj, rfl⟩ := vp_in_of (x := x) (n := 264) (vp_in_iff.mpr (by omega)) (by decide)
  rw [nI_clamp (by omega)]
  exact ⟨nI_1 j, by omega⟩
def zf_X5_has (p0 : Int64) (p1 : Int32) : Int32 := if (lg_cmp ((p0 >>> (p1.toInt64 &&& 63)) &&& 1) 1) = 0 then 1 else 0
abbrev zR_X5_has : Room := { frames := 0, cells := 0, slots := 0, locals := 0 }
set_option maxHeartbeats 4000000 in
set_option maxRecDepth 100000 in
theorem zc_X5_has {l : Launch} {D : va_G} {C : ClassId × ClassId} {p0 : Int64} {p1 : Int32} : zk_Mp l yX5_has cX5_has 3 (some .boolean) zR_X5_has [.long (p0), .int (p1)] [] D C (vp_Si (fun r => r = zf_X5_has p0 p1)) := by
  refine zk_mp (by decide) (Nat.le_of_ble_eq_true rfl) ?_
  intro p e s m below meth c X Y
  generalize hv : zf_X5_has p0 p1 = V
  unfold zf_X5_has at hv
  show zJ _ _ _ _ _ _ _ _ _ _ _ _ _ _ _ _ _ 0 [(0, .long (p0)), (2, .int (p1))] []
  refine zj_lload_n 1 X 0 dX5_has_0 rfl rfl ?_
  refine zj_iload_n 2 X 1 dX5_has_1 rfl rfl ?_
  refine zj_lshr 3 X dX5_has_2 rfl rfl ?_
  refine zj_lconst 4 X (v := 1) dX5_has_3 (by decide) rfl ?_
  refine zj_land 5 X dX5_has_4 rfl ?_
  refine zj_lconst 6 X (v := 1) dX5_has_5 (by decide) rfl ?_
  refine zj_lcmp 7 X dX5_has_6 rfl ?_
  refine zj_if_ne 10 14 X dX5_has_7 (by decide) rfl (fun c1 => ?_) (fun c1 => ?_)
  · rw [if_neg c1] at hv
    refine zj_iconst 15 X (v := 0) dX5_has_14 (by decide) rfl ?_
    exact ze_z X Y (by decide) hv dX5_has_15
  · rw [if_pos c1] at hv
    refine zj_iconst 11 X (v := 1) dX5_has_10 (by decide) rfl ?_
    refine zj_goto 15 X dX5_has_11 (by decide) ?_
    exact ze_z X Y (by decide) hv dX5_has_15
def zf_X5_worth (p0 : Int32) : Int32 := if 3 ≤ (p0 - p0 / 8 * 8) then (if (p0 - p0 / 8 * 8) = 7 then 2 else (if (p0 - p0 / 8 * 8) = 6 then 11 else (if (p0 - p0 / 8 * 8) = 5 then 10 else p0 - p0 / 8 * 8))) else 0
abbrev zR_X5_worth : Room := { frames := 0, cells := 0, slots := 0, locals := 0 }
set_option maxHeartbeats 4000000 in
set_option maxRecDepth 100000 in
theorem zc_X5_worth {l : Launch} {D : va_G} {C : ClassId × ClassId} {p0 : Int32} : zk_Mp l yX5_worth cX5_worth 2 (some .int) zR_X5_worth [.int (p0)] [] D C (vp_Si (fun r => r = zf_X5_worth p0)) := by
  refine zk_mp (by decide) (Nat.le_of_ble_eq_true rfl) ?_
  intro p e s m below meth c X Y
  generalize hv : zf_X5_worth p0 = V
  unfold zf_X5_worth at hv
  show zJ _ _ _ _ _ _ _ _ _ _ _ _ _ _ _ _ _ 0 [(0, .int (p0))] []
  refine zj_iload_n 1 X 0 dX5_worth_0 rfl rfl ?_
  refine zj_bipush 3 X (v := 8) dX5_worth_1 (by decide) rfl ?_
  refine zj_irem 4 X dX5_worth_3 (by decide) rfl ?_
  refine zj_istore_n 5 X (lv1 := [(0, .int (p0)), (1, .int (p0 - p0 / 8 * 8))]) [1, 0] dX5_worth_4 (by decide) rfl rfl ?_
  refine zj_iload_n 6 X 1 dX5_worth_5 rfl rfl ?_
  refine zj_iconst 7 X (v := 3) dX5_worth_6 (by decide) rfl ?_
  refine zj_icmp_ge 10 14 X dX5_worth_7 (by decide) rfl (fun c1 => ?_) (fun c1 => ?_)
  · rw [if_pos c1] at hv
    refine zj_iload_n 15 X 1 dX5_worth_14 rfl rfl ?_
    refine zj_bipush 17 X (v := 7) dX5_worth_15 (by decide) rfl ?_
    refine zj_icmp_ne 20 24 X dX5_worth_17 (by decide) rfl (fun c2 => ?_) (fun c2 => ?_)
    · rw [if_neg c2] at hv
      refine zj_iload_n 25 X 1 dX5_worth_24 rfl rfl ?_
      refine zj_bipush 27 X (v := 6) dX5_worth_25 (by decide) rfl ?_
      refine zj_icmp_ne 30 35 X dX5_worth_27 (by decide) rfl (fun c3 => ?_) (fun c3 => ?_)
      · rw [if_neg c3] at hv
        refine zj_iload_n 36 X 1 dX5_worth_35 rfl rfl ?_
        refine zj_iconst 37 X (v := 5) dX5_worth_36 (by decide) rfl ?_
        refine zj_icmp_ne 40 45 X dX5_worth_37 (by decide) rfl (fun c4 => ?_) (fun c4 => ?_)
        · rw [if_neg c4] at hv
          refine zj_iload_n 46 X 1 dX5_worth_45 rfl rfl ?_
          exact ze_i X Y hv dX5_worth_46
        · rw [if_pos c4] at hv
          refine zj_bipush 42 X (v := 10) dX5_worth_40 (by decide) rfl ?_
          refine zj_goto 46 X dX5_worth_42 (by decide) ?_
          exact ze_i X Y hv dX5_worth_46
      · rw [if_pos c3] at hv
        refine zj_bipush 32 X (v := 11) dX5_worth_30 (by decide) rfl ?_
        refine zj_goto 46 X dX5_worth_32 (by decide) ?_
        exact ze_i X Y hv dX5_worth_46
    · rw [if_pos c2] at hv
      refine zj_iconst 21 X (v := 2) dX5_worth_20 (by decide) rfl ?_
      refine zj_goto 46 X dX5_worth_21 (by decide) ?_
      exact ze_i X Y hv dX5_worth_46
  · rw [if_neg c1] at hv
    refine zj_iconst 11 X (v := 0) dX5_worth_10 (by decide) rfl ?_
    refine zj_goto 46 X dX5_worth_11 (by decide) ?_
    exact ze_i X Y hv dX5_worth_46
def zf_X5_trump (p0 : Int32) (p1 : Int32) : Int32 := if 4 ≤ p0 then ((8 * p1) + 10) - p0 else (8 * (3 - p0)) + 7
abbrev zR_X5_trump : Room := { frames := 0, cells := 0, slots := 0, locals := 0 }
set_option maxHeartbeats 4000000 in
set_option maxRecDepth 100000 in
theorem zc_X5_trump {l : Launch} {D : va_G} {C : ClassId × ClassId} {p0 : Int32} {p1 : Int32} : zk_Mp l yX5_trump cX5_trump 2 (some .int) zR_X5_trump [.int (p0), .int (p1)] [] D C (vp_Si (fun r => r = zf_X5_trump p0 p1)) := by
  refine zk_mp (by decide) (Nat.le_of_ble_eq_true rfl) ?_
  intro p e s m below meth c X Y
  generalize hv : zf_X5_trump p0 p1 = V
  unfold zf_X5_trump at hv
  show zJ _ _ _ _ _ _ _ _ _ _ _ _ _ _ _ _ _ 0 [(0, .int (p0)), (1, .int (p1))] []
  refine zj_iload_n 1 X 0 dX5_trump_0 rfl rfl ?_
  refine zj_iconst 2 X (v := 4) dX5_trump_1 (by decide) rfl ?_
  refine zj_icmp_ge 5 17 X dX5_trump_2 (by decide) rfl (fun c1 => ?_) (fun c1 => ?_)
  · rw [if_pos c1] at hv
    refine zj_bipush 19 X (v := 8) dX5_trump_17 (by decide) rfl ?_
    refine zj_iload_n 20 X 1 dX5_trump_19 rfl rfl ?_
    refine zj_imul 21 X dX5_trump_20 rfl ?_
    refine zj_bipush 23 X (v := 10) dX5_trump_21 (by decide) rfl ?_
    refine zj_iadd 24 X dX5_trump_23 rfl ?_
    refine zj_iload_n 25 X 0 dX5_trump_24 rfl rfl ?_
    refine zj_isub 26 X dX5_trump_25 rfl ?_
    exact ze_i X Y hv dX5_trump_26
  · rw [if_neg c1] at hv
    refine zj_bipush 7 X (v := 8) dX5_trump_5 (by decide) rfl ?_
    refine zj_iconst 8 X (v := 3) dX5_trump_7 (by decide) rfl ?_
    refine zj_iload_n 9 X 0 dX5_trump_8 rfl rfl ?_
    refine zj_isub 10 X dX5_trump_9 rfl ?_
    refine zj_imul 11 X dX5_trump_10 rfl ?_
    refine zj_bipush 13 X (v := 7) dX5_trump_11 (by decide) rfl ?_
    refine zj_iadd 14 X dX5_trump_13 rfl ?_
    refine zj_goto 26 X dX5_trump_14 (by decide) ?_
    exact ze_i X Y hv dX5_trump_26
def zf_X5_thrown (v : zN) : Int32 := zmI v 0
abbrev zR_X5_thrown : Room := { frames := 0, cells := 0, slots := 0, locals := 0 }
set_option maxHeartbeats 4000000 in
set_option maxRecDepth 100000 in
theorem zc_X5_thrown {l : Launch} {D : va_G} {C : ClassId × ClassId} {a : Nat → Nat} {v : zN} : zk_Mp l yX5_thrown cX5_thrown 1 (some .int) zR_X5_thrown [.ref (a 0)] (zM C a v) D C (vp_Si (fun r => r = zf_X5_thrown v)) := by
  refine zk_mp (by decide) (Nat.le_of_ble_eq_true rfl) ?_
  intro p e s m below meth c X Y
  generalize hv : zf_X5_thrown v = V
  unfold zf_X5_thrown at hv
  show zJ _ _ _ _ _ _ _ _ _ _ _ _ _ _ _ _ _ 0 [(0, .ref (a 0))] []
  refine zj_aload_n 1 X 0 dX5_thrown_0 rfl rfl ?_
  refine zg_RX5_36 4 X (w := zmI v 0) rfl dX5_thrown_1 rfl ?_
  exact ze_i X Y hv dX5_thrown_4
def zf_X5_holds (v : zN) (p0 : Int32) : Int32 × zN := if p0 = 0 then (1, zmI1 v 0 p0) else (0, zmI1 v 0 p0)
abbrev zR_X5_holds : Room := { frames := 0, cells := 0, slots := 0, locals := 0 }
set_option maxHeartbeats 4000000 in
set_option maxRecDepth 100000 in
theorem zc_X5_holds {l : Launch} {D : va_G} {C : ClassId × ClassId} {a : Nat → Nat} {v : zN} {p0 : Int32} : zk_Mm l yX5_holds cX5_holds 2 (some .boolean) zR_X5_holds [.ref (a 0), .int (p0)] (zM C a v) D C (fun A => va_Qi (fun r u' => (r, u') = zf_X5_holds v p0) (fun u' t => va_P D vwCl (zM C a u') t.heap) A) := by
  refine zk_mm (by decide) (Nat.le_of_ble_eq_true rfl) ?_
  intro p e s m below meth c A X Y hD hA
  generalize hv : zf_X5_holds v p0 = V
  unfold zf_X5_holds at hv
  show zJ _ _ _ _ _ _ _ _ _ _ _ _ _ _ _ _ _ 0 [(0, .ref (a 0)), (1, .int (p0))] []
  refine zj_aload_n 1 X 0 dX5_holds_0 rfl rfl ?_
  refine zj_iload_n 2 X 1 dX5_holds_1 rfl rfl ?_
  refine zp_RX5_36 5 X (zD_M _ hD) dX5_holds_2 rfl ?_
  refine zj_iload_n 6 X 1 dX5_holds_5 rfl rfl ?_
  refine zj_if_ne 9 13 X dX5_holds_6 (by decide) rfl (fun c1 => ?_) (fun c1 => ?_)
  · rw [if_neg c1] at hv
    refine zj_iconst 14 X (v := 0) dX5_holds_13 (by decide) rfl ?_
    exact ze_zm (Wd := zM C a) (u := zmI1 v 0 p0) X Y (by decide) hv dX5_holds_14
  · rw [if_pos c1] at hv
    refine zj_iconst 10 X (v := 1) dX5_holds_9 (by decide) rfl ?_
    refine zj_goto 14 X dX5_holds_10 (by decide) ?_
    exact ze_zm (Wd := zM C a) (u := zmI1 v 0 p0) X Y (by decide) hv dX5_holds_14
def zf_X5_forehand (v : zN) : Int32 := (zmI v 1) - (zmI v 1) / 3 * 3
abbrev zR_X5_forehand : Room := { frames := 0, cells := 0, slots := 0, locals := 0 }
set_option maxHeartbeats 4000000 in
set_option maxRecDepth 100000 in
theorem zc_X5_forehand {l : Launch} {D : va_G} {C : ClassId × ClassId} {a : Nat → Nat} {v : zN} : zk_Mp l yX5_forehand cX5_forehand 1 (some .int) zR_X5_forehand [.ref (a 0)] (zM C a v) D C (vp_Si (fun r => r = zf_X5_forehand v)) := by
  refine zk_mp (by decide) (Nat.le_of_ble_eq_true rfl) ?_
  intro p e s m below meth c X Y
  generalize hv : zf_X5_forehand v = V
  unfold zf_X5_forehand at hv
  show zJ _ _ _ _ _ _ _ _ _ _ _ _ _ _ _ _ _ 0 [(0, .ref (a 0))] []
  refine zj_aload_n 1 X 0 dX5_forehand_0 rfl rfl ?_
  refine zg_RX5_40 4 X (w := zmI v 1) rfl dX5_forehand_1 rfl ?_
  refine zj_iconst 5 X (v := 3) dX5_forehand_4 (by decide) rfl ?_
  refine zj_irem 6 X dX5_forehand_5 (by decide) rfl ?_
  exact ze_i X Y hv dX5_forehand_6
def zf_X5_turns (v : zN) (p0 : Int32) (p1 : Int32) : zN := zmI1 (zmI1 v 2 p0) 3 p1
abbrev zR_X5_turns : Room := { frames := 0, cells := 0, slots := 0, locals := 0 }
set_option maxHeartbeats 4000000 in
set_option maxRecDepth 100000 in
theorem zc_X5_turns {l : Launch} {D : va_G} {C : ClassId × ClassId} {a : Nat → Nat} {v : zN} {p0 : Int32} {p1 : Int32} : zk_Mm l yX5_turns cX5_turns 3 none zR_X5_turns [.ref (a 0), .int (p0), .int (p1)] (zM C a v) D C (fun A => va_Qv (fun u' => u' = zf_X5_turns v p0 p1) (fun u' t => va_P D vwCl (zM C a u') t.heap) A) := by
  refine zk_mm (by decide) (Nat.le_of_ble_eq_true rfl) ?_
  intro p e s m below meth c A X Y hD hA
  generalize hv : zf_X5_turns v p0 p1 = V
  unfold zf_X5_turns at hv
  show zJ _ _ _ _ _ _ _ _ _ _ _ _ _ _ _ _ _ 0 [(0, .ref (a 0)), (1, .int (p0)), (2, .int (p1))] []
  refine zj_aload_n 1 X 0 dX5_turns_0 rfl rfl ?_
  refine zj_iload_n 2 X 1 dX5_turns_1 rfl rfl ?_
  refine zp_RX5_94 5 X (zD_M _ hD) dX5_turns_2 rfl ?_
  refine zj_aload_n 6 X 0 dX5_turns_5 rfl rfl ?_
  refine zj_iload_n 7 X 2 dX5_turns_6 rfl rfl ?_
  refine zp_RX5_97 10 X (zD_M _ hD) dX5_turns_7 rfl ?_
  exact ze_vm (Wd := zM C a) (u := zmI1 (zmI1 v 2 p0) 3 p1) X Y hv dX5_turns_10
def zf_X5_declares (v : zN) (p0 : Int32) : zN := (zf_X5_turns (zmI1 v 12 p0) 2 p0)
abbrev zR_X5_declares : Room := { frames := 1, cells := 0, slots := 0, locals := 22 }
set_option maxHeartbeats 4000000 in
set_option maxRecDepth 100000 in
theorem zc_X5_declares {l : Launch} {D : va_G} {C : ClassId × ClassId} {a : Nat → Nat} {v : zN} {p0 : Int32} : zk_Mm l yX5_declares cX5_declares 2 none zR_X5_declares [.ref (a 0), .int (p0)] (zM C a v) D C (fun A => va_Qv (fun u' => u' = zf_X5_declares v p0) (fun u' t => va_P D vwCl (zM C a u') t.heap) A) := by
  refine zk_mm (by decide) (Nat.le_of_ble_eq_true rfl) ?_
  intro p e s m below meth c A X Y hD hA
  generalize hv : zf_X5_declares v p0 = V
  unfold zf_X5_declares at hv
  show zJ _ _ _ _ _ _ _ _ _ _ _ _ _ _ _ _ _ 0 [(0, .ref (a 0)), (1, .int (p0))] []
  refine zj_aload_n 1 X 0 dX5_declares_0 rfl rfl ?_
  refine zj_iload_n 2 X 1 dX5_declares_1 rfl rfl ?_
  refine zp_RX5_61 5 X (zD_M _ hD) dX5_declares_2 rfl ?_
  refine zj_aload_n 6 X 0 dX5_declares_5 rfl rfl ?_
  refine zj_iconst 7 X (v := 2) dX5_declares_6 (by decide) rfl ?_
  refine zj_iload_n 8 X 1 dX5_declares_7 rfl rfl ?_
  refine zc_vm 11 (Wd := zM C a) (zr_Vm (As := [.int (2), .int (p0)]) (rest := []) X (zc_X5_turns (l := l) (p0 := 2) (p1 := p0) (v := zmI1 v 12 p0)) zw_X5_90 zn_X5_turns (zcR_of rfl) zO_M (zD_M _ hD) hA rfl (Nat.le_of_ble_eq_true rfl) dX5_declares_8) (zD_M _ hD) hA rfl ?_
  exact ze_vm (Wd := zM C a) (u := (zf_X5_turns (zmI1 v 12 p0) 2 p0)) X Y hv dX5_declares_11
def zf_X5_leads (v : zN) : zN := (zf_X5_turns (zmI1 (zmI1 v 18 (zf_X5_forehand v)) 17 0) 5 (zf_X5_forehand v))
abbrev zR_X5_leads : Room := { frames := 1, cells := 0, slots := 0, locals := 22 }
set_option maxHeartbeats 4000000 in
set_option maxRecDepth 100000 in
theorem zc_X5_leads {l : Launch} {D : va_G} {C : ClassId × ClassId} {a : Nat → Nat} {v : zN} : zk_Mm l yX5_leads cX5_leads 1 none zR_X5_leads [.ref (a 0)] (zM C a v) D C (fun A => va_Qv (fun u' => u' = zf_X5_leads v) (fun u' t => va_P D vwCl (zM C a u') t.heap) A) := by
  refine zk_mm (by decide) (Nat.le_of_ble_eq_true rfl) ?_
  intro p e s m below meth c A X Y hD hA
  generalize hv : zf_X5_leads v = V
  unfold zf_X5_leads at hv
  show zJ _ _ _ _ _ _ _ _ _ _ _ _ _ _ _ _ _ 0 [(0, .ref (a 0))] []
  refine zj_aload_n 1 X 0 dX5_leads_0 rfl rfl ?_
  refine zj_aload_n 2 X 0 dX5_leads_1 rfl rfl ?_
  refine zc_i 5 (zr_V (As := []) (rest := [.ref (a 0)]) X (zc_X5_forehand (l := l) (v := v)) zw_X5_80 zn_X5_forehand (zcR_of rfl) zO_M zsI rfl (Nat.le_of_ble_eq_true rfl) dX5_leads_2) rfl ?_
  refine zp_RX5_117 8 X (zD_M _ hD) dX5_leads_5 rfl ?_
  refine zj_aload_n 9 X 0 dX5_leads_8 rfl rfl ?_
  refine zj_iconst 10 X (v := 0) dX5_leads_9 (by decide) rfl ?_
  refine zp_RX5_74 13 X (zD_M _ hD) dX5_leads_10 rfl ?_
  refine zj_aload_n 14 X 0 dX5_leads_13 rfl rfl ?_
  refine zj_iconst 15 X (v := 5) dX5_leads_14 (by decide) rfl ?_
  refine zj_aload_n 16 X 0 dX5_leads_15 rfl rfl ?_
  refine zg_RX5_117 19 X (w := zf_X5_forehand v) rfl dX5_leads_16 rfl ?_
  refine zc_vm 22 (Wd := zM C a) (zr_Vm (As := [.int (5), .int (zf_X5_forehand v)]) (rest := []) X (zc_X5_turns (l := l) (p0 := 5) (p1 := zf_X5_forehand v) (v := zmI1 (zmI1 v 18 (zf_X5_forehand v)) 17 0)) zw_X5_90 zn_X5_turns (zcR_of rfl) zO_M (zD_M _ hD) hA rfl (Nat.le_of_ble_eq_true rfl) dX5_leads_19) (zD_M _ hD) hA rfl ?_
  exact ze_vm (Wd := zM C a) (u := (zf_X5_turns (zmI1 (zmI1 v 18 (zf_X5_forehand v)) 17 0) 5 (zf_X5_forehand v))) X Y hv dX5_leads_22
def zf_X5_phase (v : zN) : Int32 × zN := (zmI v 2, zmI1 v 0 0)
abbrev zR_X5_phase : Room := { frames := 0, cells := 0, slots := 0, locals := 0 }
set_option maxHeartbeats 4000000 in
set_option maxRecDepth 100000 in
theorem zc_X5_phase {l : Launch} {D : va_G} {C : ClassId × ClassId} {a : Nat → Nat} {v : zN} : zk_Mm l yX5_phase cX5_phase 1 (some .int) zR_X5_phase [.ref (a 0)] (zM C a v) D C (fun A => va_Qi (fun r u' => (r, u') = zf_X5_phase v) (fun u' t => va_P D vwCl (zM C a u') t.heap) A) := by
  refine zk_mm (by decide) (Nat.le_of_ble_eq_true rfl) ?_
  intro p e s m below meth c A X Y hD hA
  generalize hv : zf_X5_phase v = V
  unfold zf_X5_phase at hv
  show zJ _ _ _ _ _ _ _ _ _ _ _ _ _ _ _ _ _ 0 [(0, .ref (a 0))] []
  refine zj_aload_n 1 X 0 dX5_phase_0 rfl rfl ?_
  refine zj_iconst 2 X (v := 0) dX5_phase_1 (by decide) rfl ?_
  refine zp_RX5_36 5 X (zD_M _ hD) dX5_phase_2 rfl ?_
  refine zj_aload_n 6 X 0 dX5_phase_5 rfl rfl ?_
  refine zg_RX5_94 9 X (w := zmI v 2) rfl dX5_phase_6 rfl ?_
  exact ze_im (Wd := zM C a) (u := zmI1 v 0 0) X Y hv dX5_phase_9
def zf_X5_onTurn (v : zN) : Int32 × zN := if (zmI v 2) = 6 then ((-1), zmI1 v 0 0) else (zmI v 3, zmI1 v 0 0)
abbrev zR_X5_onTurn : Room := { frames := 0, cells := 0, slots := 0, locals := 0 }
set_option maxHeartbeats 4000000 in
set_option maxRecDepth 100000 in
theorem zc_X5_onTurn {l : Launch} {D : va_G} {C : ClassId × ClassId} {a : Nat → Nat} {v : zN} : zk_Mm l yX5_onTurn cX5_onTurn 1 (some .int) zR_X5_onTurn [.ref (a 0)] (zM C a v) D C (fun A => va_Qi (fun r u' => (r, u') = zf_X5_onTurn v) (fun u' t => va_P D vwCl (zM C a u') t.heap) A) := by
  refine zk_mm (by decide) (Nat.le_of_ble_eq_true rfl) ?_
  intro p e s m below meth c A X Y hD hA
  generalize hv : zf_X5_onTurn v = V
  unfold zf_X5_onTurn at hv
  show zJ _ _ _ _ _ _ _ _ _ _ _ _ _ _ _ _ _ 0 [(0, .ref (a 0))] []
  refine zj_aload_n 1 X 0 dX5_onTurn_0 rfl rfl ?_
  refine zj_iconst 2 X (v := 0) dX5_onTurn_1 (by decide) rfl ?_
  refine zp_RX5_36 5 X (zD_M _ hD) dX5_onTurn_2 rfl ?_
  refine zj_aload_n 6 X 0 dX5_onTurn_5 rfl rfl ?_
  refine zg_RX5_94 9 X (w := zmI v 2) rfl dX5_onTurn_6 rfl ?_
  refine zj_bipush 11 X (v := 6) dX5_onTurn_9 (by decide) rfl ?_
  refine zj_icmp_ne 14 18 X dX5_onTurn_11 (by decide) rfl (fun c1 => ?_) (fun c1 => ?_)
  · rw [if_neg c1] at hv
    refine zj_aload_n 19 X 0 dX5_onTurn_18 rfl rfl ?_
    refine zg_RX5_97 22 X (w := zmI v 3) rfl dX5_onTurn_19 rfl ?_
    exact ze_im (Wd := zM C a) (u := zmI1 v 0 0) X Y hv dX5_onTurn_22
  · rw [if_pos c1] at hv
    refine zj_iconst 15 X (v := (-1)) dX5_onTurn_14 (by decide) rfl ?_
    refine zj_goto 22 X dX5_onTurn_15 (by decide) ?_
    exact ze_im (Wd := zM C a) (u := zmI1 v 0 0) X Y hv dX5_onTurn_22
def zf_X5_latestBid (v : zN) : Int32 × zN := (zmI v 11, zmI1 v 0 0)
abbrev zR_X5_latestBid : Room := { frames := 0, cells := 0, slots := 0, locals := 0 }
set_option maxHeartbeats 4000000 in
set_option maxRecDepth 100000 in
theorem zc_X5_latestBid {l : Launch} {D : va_G} {C : ClassId × ClassId} {a : Nat → Nat} {v : zN} : zk_Mm l yX5_latestBid cX5_latestBid 1 (some .int) zR_X5_latestBid [.ref (a 0)] (zM C a v) D C (fun A => va_Qi (fun r u' => (r, u') = zf_X5_latestBid v) (fun u' t => va_P D vwCl (zM C a u') t.heap) A) := by
  refine zk_mm (by decide) (Nat.le_of_ble_eq_true rfl) ?_
  intro p e s m below meth c A X Y hD hA
  generalize hv : zf_X5_latestBid v = V
  unfold zf_X5_latestBid at hv
  show zJ _ _ _ _ _ _ _ _ _ _ _ _ _ _ _ _ _ 0 [(0, .ref (a 0))] []
  refine zj_aload_n 1 X 0 dX5_latestBid_0 rfl rfl ?_
  refine zj_iconst 2 X (v := 0) dX5_latestBid_1 (by decide) rfl ?_
  refine zp_RX5_36 5 X (zD_M _ hD) dX5_latestBid_2 rfl ?_
  refine zj_aload_n 6 X 0 dX5_latestBid_5 rfl rfl ?_
  refine zg_RX5_58 9 X (w := zmI v 11) rfl dX5_latestBid_6 rfl ?_
  exact ze_im (Wd := zM C a) (u := zmI1 v 0 0) X Y hv dX5_latestBid_9
def zf_X5_declarer (v : zN) : Int32 × zN := (zmI v 12, zmI1 v 0 0)
abbrev zR_X5_declarer : Room := { frames := 0, cells := 0, slots := 0, locals := 0 }
set_option maxHeartbeats 4000000 in
set_option maxRecDepth 100000 in
theorem zc_X5_declarer {l : Launch} {D : va_G} {C : ClassId × ClassId} {a : Nat → Nat} {v : zN} : zk_Mm l yX5_declarer cX5_declarer 1 (some .int) zR_X5_declarer [.ref (a 0)] (zM C a v) D C (fun A => va_Qi (fun r u' => (r, u') = zf_X5_declarer v) (fun u' t => va_P D vwCl (zM C a u') t.heap) A) := by
  refine zk_mm (by decide) (Nat.le_of_ble_eq_true rfl) ?_
  intro p e s m below meth c A X Y hD hA
  generalize hv : zf_X5_declarer v = V
  unfold zf_X5_declarer at hv
  show zJ _ _ _ _ _ _ _ _ _ _ _ _ _ _ _ _ _ 0 [(0, .ref (a 0))] []
  refine zj_aload_n 1 X 0 dX5_declarer_0 rfl rfl ?_
  refine zj_iconst 2 X (v := 0) dX5_declarer_1 (by decide) rfl ?_
  refine zp_RX5_36 5 X (zD_M _ hD) dX5_declarer_2 rfl ?_
  refine zj_aload_n 6 X 0 dX5_declarer_5 rfl rfl ?_
  refine zg_RX5_61 9 X (w := zmI v 12) rfl dX5_declarer_6 rfl ?_
  exact ze_im (Wd := zM C a) (u := zmI1 v 0 0) X Y hv dX5_declarer_9
def zf_X5_contract (v : zN) : Int32 × zN := (zmI v 13, zmI1 v 0 0)
abbrev zR_X5_contract : Room := { frames := 0, cells := 0, slots := 0, locals := 0 }
set_option maxHeartbeats 4000000 in
set_option maxRecDepth 100000 in
theorem zc_X5_contract {l : Launch} {D : va_G} {C : ClassId × ClassId} {a : Nat → Nat} {v : zN} : zk_Mm l yX5_contract cX5_contract 1 (some .int) zR_X5_contract [.ref (a 0)] (zM C a v) D C (fun A => va_Qi (fun r u' => (r, u') = zf_X5_contract v) (fun u' t => va_P D vwCl (zM C a u') t.heap) A) := by
  refine zk_mm (by decide) (Nat.le_of_ble_eq_true rfl) ?_
  intro p e s m below meth c A X Y hD hA
  generalize hv : zf_X5_contract v = V
  unfold zf_X5_contract at hv
  show zJ _ _ _ _ _ _ _ _ _ _ _ _ _ _ _ _ _ 0 [(0, .ref (a 0))] []
  refine zj_aload_n 1 X 0 dX5_contract_0 rfl rfl ?_
  refine zj_iconst 2 X (v := 0) dX5_contract_1 (by decide) rfl ?_
  refine zp_RX5_36 5 X (zD_M _ hD) dX5_contract_2 rfl ?_
  refine zj_aload_n 6 X 0 dX5_contract_5 rfl rfl ?_
  refine zg_RX5_64 9 X (w := zmI v 13) rfl dX5_contract_6 rfl ?_
  exact ze_im (Wd := zM C a) (u := zmI1 v 0 0) X Y hv dX5_contract_9
def zf_X5_isBid (p0 : Int32) : Int32 := if (if (if (if (if (if p0 = 23 then (1 : Int32) else if p0 = 35 then (1 : Int32) else if p0 = 46 then (1 : Int32) else if p0 = 59 then (1 : Int32) else 0) = 0 then if (p0 - p0 / 9 * 9) = 0 then if (zf_X5_in (p0 / 9) 2 18) = 0 then (0 : Int32) else 1 else 0 else 1) = 0 then if (p0 - p0 / 10 * 10) = 0 then if (zf_X5_in (p0 / 10) 2 18) = 0 then (0 : Int32) else 1 else 0 else 1) = 0 then if (p0 - p0 / 11 * 11) = 0 then if (zf_X5_in (p0 / 11) 2 18) = 0 then (0 : Int32) else 1 else 0 else 1) = 0 then if (p0 - p0 / 12 * 12) = 0 then if (zf_X5_in (p0 / 12) 2 18) = 0 then (0 : Int32) else 1 else 0 else 1) = 0 then (if (p0 - p0 / 24 * 24) = 0 then (if (zf_X5_in (p0 / 24) 2 11) = 0 then 0 else 1) else 0) else 1
abbrev zR_X5_isBid : Room := { frames := 1, cells := 0, slots := 0, locals := 22 }
set_option maxHeartbeats 4000000 in
set_option maxRecDepth 100000 in
theorem zc_X5_isBid {l : Launch} {D : va_G} {C : ClassId × ClassId} {p0 : Int32} : zk_Mp l yX5_isBid cX5_isBid 3 (some .boolean) zR_X5_isBid [.int (p0)] [] D C (vp_Si (fun r => r = zf_X5_isBid p0)) := by
  refine zk_mp (by decide) (Nat.le_of_ble_eq_true rfl) ?_
  intro p e s m below meth c X Y
  generalize hv : zf_X5_isBid p0 = V
  unfold zf_X5_isBid at hv
  show zJ _ _ _ _ _ _ _ _ _ _ _ _ _ _ _ _ _ 0 [(0, .int (p0))] []
  refine zj_iload_n 1 X 0 dX5_isBid_0 rfl rfl ?_
  refine zj_bipush 3 X (v := 23) dX5_isBid_1 (by decide) rfl ?_
  refine zj_join 29 [(0, .int (p0))] [.int (if p0 = 23 then (1 : Int32) else if p0 = 35 then (1 : Int32) else if p0 = 46 then (1 : Int32) else if p0 = 59 then (1 : Int32) else 0)] ?_ (fun J5 => ?_)
  · refine zj_istore_n 30 X (lv1 := [(0, .int (p0)), (1, .int (if p0 = 23 then (1 : Int32) else if p0 = 35 then (1 : Int32) else if p0 = 46 then (1 : Int32) else if p0 = 59 then (1 : Int32) else 0))]) [1, 0] dX5_isBid_29 (by decide) rfl rfl ?_
    refine zj_bipush 32 X (v := 9) dX5_isBid_30 (by decide) rfl ?_
    refine zj_istore_n 33 X (lv1 := [(0, .int (p0)), (1, .int (if p0 = 23 then (1 : Int32) else if p0 = 35 then (1 : Int32) else if p0 = 46 then (1 : Int32) else if p0 = 59 then (1 : Int32) else 0)), (2, .int (9))]) [1, 2, 0] dX5_isBid_32 (by decide) rfl rfl ?_
    refine zj_iload_n 34 X 2 dX5_isBid_33 rfl rfl ?_
    refine zj_bipush 36 X (v := 13) dX5_isBid_34 (by decide) rfl ?_
    refine zj_icmp_ge 39 73 X dX5_isBid_36 (by decide) rfl (fun c6 => absurd c6 (by decide)) (fun _ => ?_)
    refine zj_iload_n 40 X 1 dX5_isBid_39 rfl rfl ?_
    refine zj_join 66 [(0, .int (p0)), (1, .int (if p0 = 23 then (1 : Int32) else if p0 = 35 then (1 : Int32) else if p0 = 46 then (1 : Int32) else if p0 = 59 then (1 : Int32) else 0)), (2, .int (9))] [.int (if (if p0 = 23 then (1 : Int32) else if p0 = 35 then (1 : Int32) else if p0 = 46 then (1 : Int32) else if p0 = 59 then (1 : Int32) else 0) = 0 then if (p0 - p0 / 9 * 9) = 0 then if (zf_X5_in (p0 / 9) 2 18) = 0 then (0 : Int32) else 1 else 0 else 1)] ?_ (fun J10 => ?_)
    · refine zj_istore_n 67 X (lv1 := [(0, .int (p0)), (1, .int (if (if p0 = 23 then (1 : Int32) else if p0 = 35 then (1 : Int32) else if p0 = 46 then (1 : Int32) else if p0 = 59 then (1 : Int32) else 0) = 0 then if (p0 - p0 / 9 * 9) = 0 then if (zf_X5_in (p0 / 9) 2 18) = 0 then (0 : Int32) else 1 else 0 else 1)), (2, .int (9))]) [1, 0, 2] dX5_isBid_66 (by decide) rfl rfl ?_
      refine zj_iinc 70 X (v := 10) (lv1 := [(0, .int (p0)), (1, .int (if (if p0 = 23 then (1 : Int32) else if p0 = 35 then (1 : Int32) else if p0 = 46 then (1 : Int32) else if p0 = 59 then (1 : Int32) else 0) = 0 then if (p0 - p0 / 9 * 9) = 0 then if (zf_X5_in (p0 / 9) 2 18) = 0 then (0 : Int32) else 1 else 0 else 1)), (2, .int (10))]) 2 [1, 2, 0] dX5_isBid_67 rfl (by decide) (by decide) rfl rfl ?_
      refine zj_goto 33 X dX5_isBid_70 (by decide) ?_
      refine zj_iload_n 34 X 2 dX5_isBid_33 rfl rfl ?_
      refine zj_bipush 36 X (v := 13) dX5_isBid_34 (by decide) rfl ?_
      refine zj_icmp_ge 39 73 X dX5_isBid_36 (by decide) rfl (fun c11 => absurd c11 (by decide)) (fun _ => ?_)
      refine zj_iload_n 40 X 1 dX5_isBid_39 rfl rfl ?_
      refine zj_join 66 [(0, .int (p0)), (1, .int (if (if p0 = 23 then (1 : Int32) else if p0 = 35 then (1 : Int32) else if p0 = 46 then (1 : Int32) else if p0 = 59 then (1 : Int32) else 0) = 0 then if (p0 - p0 / 9 * 9) = 0 then if (zf_X5_in (p0 / 9) 2 18) = 0 then (0 : Int32) else 1 else 0 else 1)), (2, .int (10))] [.int (if (if (if p0 = 23 then (1 : Int32) else if p0 = 35 then (1 : Int32) else if p0 = 46 then (1 : Int32) else if p0 = 59 then (1 : Int32) else 0) = 0 then if (p0 - p0 / 9 * 9) = 0 then if (zf_X5_in (p0 / 9) 2 18) = 0 then (0 : Int32) else 1 else 0 else 1) = 0 then if (p0 - p0 / 10 * 10) = 0 then if (zf_X5_in (p0 / 10) 2 18) = 0 then (0 : Int32) else 1 else 0 else 1)] ?_ (fun J15 => ?_)
      · refine zj_istore_n 67 X (lv1 := [(0, .int (p0)), (1, .int (if (if (if p0 = 23 then (1 : Int32) else if p0 = 35 then (1 : Int32) else if p0 = 46 then (1 : Int32) else if p0 = 59 then (1 : Int32) else 0) = 0 then if (p0 - p0 / 9 * 9) = 0 then if (zf_X5_in (p0 / 9) 2 18) = 0 then (0 : Int32) else 1 else 0 else 1) = 0 then if (p0 - p0 / 10 * 10) = 0 then if (zf_X5_in (p0 / 10) 2 18) = 0 then (0 : Int32) else 1 else 0 else 1)), (2, .int (10))]) [1, 0, 2] dX5_isBid_66 (by decide) rfl rfl ?_
        refine zj_iinc 70 X (v := 11) (lv1 := [(0, .int (p0)), (1, .int (if (if (if p0 = 23 then (1 : Int32) else if p0 = 35 then (1 : Int32) else if p0 = 46 then (1 : Int32) else if p0 = 59 then (1 : Int32) else 0) = 0 then if (p0 - p0 / 9 * 9) = 0 then if (zf_X5_in (p0 / 9) 2 18) = 0 then (0 : Int32) else 1 else 0 else 1) = 0 then if (p0 - p0 / 10 * 10) = 0 then if (zf_X5_in (p0 / 10) 2 18) = 0 then (0 : Int32) else 1 else 0 else 1)), (2, .int (11))]) 2 [1, 2, 0] dX5_isBid_67 rfl (by decide) (by decide) rfl rfl ?_
        refine zj_goto 33 X dX5_isBid_70 (by decide) ?_
        refine zj_iload_n 34 X 2 dX5_isBid_33 rfl rfl ?_
        refine zj_bipush 36 X (v := 13) dX5_isBid_34 (by decide) rfl ?_
        refine zj_icmp_ge 39 73 X dX5_isBid_36 (by decide) rfl (fun c16 => absurd c16 (by decide)) (fun _ => ?_)
        refine zj_iload_n 40 X 1 dX5_isBid_39 rfl rfl ?_
        refine zj_join 66 [(0, .int (p0)), (1, .int (if (if (if p0 = 23 then (1 : Int32) else if p0 = 35 then (1 : Int32) else if p0 = 46 then (1 : Int32) else if p0 = 59 then (1 : Int32) else 0) = 0 then if (p0 - p0 / 9 * 9) = 0 then if (zf_X5_in (p0 / 9) 2 18) = 0 then (0 : Int32) else 1 else 0 else 1) = 0 then if (p0 - p0 / 10 * 10) = 0 then if (zf_X5_in (p0 / 10) 2 18) = 0 then (0 : Int32) else 1 else 0 else 1)), (2, .int (11))] [.int (if (if (if (if p0 = 23 then (1 : Int32) else if p0 = 35 then (1 : Int32) else if p0 = 46 then (1 : Int32) else if p0 = 59 then (1 : Int32) else 0) = 0 then if (p0 - p0 / 9 * 9) = 0 then if (zf_X5_in (p0 / 9) 2 18) = 0 then (0 : Int32) else 1 else 0 else 1) = 0 then if (p0 - p0 / 10 * 10) = 0 then if (zf_X5_in (p0 / 10) 2 18) = 0 then (0 : Int32) else 1 else 0 else 1) = 0 then if (p0 - p0 / 11 * 11) = 0 then if (zf_X5_in (p0 / 11) 2 18) = 0 then (0 : Int32) else 1 else 0 else 1)] ?_ (fun J20 => ?_)
        · refine zj_istore_n 67 X (lv1 := [(0, .int (p0)), (1, .int (if (if (if (if p0 = 23 then (1 : Int32) else if p0 = 35 then (1 : Int32) else if p0 = 46 then (1 : Int32) else if p0 = 59 then (1 : Int32) else 0) = 0 then if (p0 - p0 / 9 * 9) = 0 then if (zf_X5_in (p0 / 9) 2 18) = 0 then (0 : Int32) else 1 else 0 else 1) = 0 then if (p0 - p0 / 10 * 10) = 0 then if (zf_X5_in (p0 / 10) 2 18) = 0 then (0 : Int32) else 1 else 0 else 1) = 0 then if (p0 - p0 / 11 * 11) = 0 then if (zf_X5_in (p0 / 11) 2 18) = 0 then (0 : Int32) else 1 else 0 else 1)), (2, .int (11))]) [1, 0, 2] dX5_isBid_66 (by decide) rfl rfl ?_
          refine zj_iinc 70 X (v := 12) (lv1 := [(0, .int (p0)), (1, .int (if (if (if (if p0 = 23 then (1 : Int32) else if p0 = 35 then (1 : Int32) else if p0 = 46 then (1 : Int32) else if p0 = 59 then (1 : Int32) else 0) = 0 then if (p0 - p0 / 9 * 9) = 0 then if (zf_X5_in (p0 / 9) 2 18) = 0 then (0 : Int32) else 1 else 0 else 1) = 0 then if (p0 - p0 / 10 * 10) = 0 then if (zf_X5_in (p0 / 10) 2 18) = 0 then (0 : Int32) else 1 else 0 else 1) = 0 then if (p0 - p0 / 11 * 11) = 0 then if (zf_X5_in (p0 / 11) 2 18) = 0 then (0 : Int32) else 1 else 0 else 1)), (2, .int (12))]) 2 [1, 2, 0] dX5_isBid_67 rfl (by decide) (by decide) rfl rfl ?_
          refine zj_goto 33 X dX5_isBid_70 (by decide) ?_
          refine zj_iload_n 34 X 2 dX5_isBid_33 rfl rfl ?_
          refine zj_bipush 36 X (v := 13) dX5_isBid_34 (by decide) rfl ?_
          refine zj_icmp_ge 39 73 X dX5_isBid_36 (by decide) rfl (fun c21 => absurd c21 (by decide)) (fun _ => ?_)
          refine zj_iload_n 40 X 1 dX5_isBid_39 rfl rfl ?_
          refine zj_join 66 [(0, .int (p0)), (1, .int (if (if (if (if p0 = 23 then (1 : Int32) else if p0 = 35 then (1 : Int32) else if p0 = 46 then (1 : Int32) else if p0 = 59 then (1 : Int32) else 0) = 0 then if (p0 - p0 / 9 * 9) = 0 then if (zf_X5_in (p0 / 9) 2 18) = 0 then (0 : Int32) else 1 else 0 else 1) = 0 then if (p0 - p0 / 10 * 10) = 0 then if (zf_X5_in (p0 / 10) 2 18) = 0 then (0 : Int32) else 1 else 0 else 1) = 0 then if (p0 - p0 / 11 * 11) = 0 then if (zf_X5_in (p0 / 11) 2 18) = 0 then (0 : Int32) else 1 else 0 else 1)), (2, .int (12))] [.int (if (if (if (if (if p0 = 23 then (1 : Int32) else if p0 = 35 then (1 : Int32) else if p0 = 46 then (1 : Int32) else if p0 = 59 then (1 : Int32) else 0) = 0 then if (p0 - p0 / 9 * 9) = 0 then if (zf_X5_in (p0 / 9) 2 18) = 0 then (0 : Int32) else 1 else 0 else 1) = 0 then if (p0 - p0 / 10 * 10) = 0 then if (zf_X5_in (p0 / 10) 2 18) = 0 then (0 : Int32) else 1 else 0 else 1) = 0 then if (p0 - p0 / 11 * 11) = 0 then if (zf_X5_in (p0 / 11) 2 18) = 0 then (0 : Int32) else 1 else 0 else 1) = 0 then if (p0 - p0 / 12 * 12) = 0 then if (zf_X5_in (p0 / 12) 2 18) = 0 then (0 : Int32) else 1 else 0 else 1)] ?_ (fun J25 => ?_)
          · refine zj_istore_n 67 X (lv1 := [(0, .int (p0)), (1, .int (if (if (if (if (if p0 = 23 then (1 : Int32) else if p0 = 35 then (1 : Int32) else if p0 = 46 then (1 : Int32) else if p0 = 59 then (1 : Int32) else 0) = 0 then if (p0 - p0 / 9 * 9) = 0 then if (zf_X5_in (p0 / 9) 2 18) = 0 then (0 : Int32) else 1 else 0 else 1) = 0 then if (p0 - p0 / 10 * 10) = 0 then if (zf_X5_in (p0 / 10) 2 18) = 0 then (0 : Int32) else 1 else 0 else 1) = 0 then if (p0 - p0 / 11 * 11) = 0 then if (zf_X5_in (p0 / 11) 2 18) = 0 then (0 : Int32) else 1 else 0 else 1) = 0 then if (p0 - p0 / 12 * 12) = 0 then if (zf_X5_in (p0 / 12) 2 18) = 0 then (0 : Int32) else 1 else 0 else 1)), (2, .int (12))]) [1, 0, 2] dX5_isBid_66 (by decide) rfl rfl ?_
            refine zj_iinc 70 X (v := 13) (lv1 := [(0, .int (p0)), (1, .int (if (if (if (if (if p0 = 23 then (1 : Int32) else if p0 = 35 then (1 : Int32) else if p0 = 46 then (1 : Int32) else if p0 = 59 then (1 : Int32) else 0) = 0 then if (p0 - p0 / 9 * 9) = 0 then if (zf_X5_in (p0 / 9) 2 18) = 0 then (0 : Int32) else 1 else 0 else 1) = 0 then if (p0 - p0 / 10 * 10) = 0 then if (zf_X5_in (p0 / 10) 2 18) = 0 then (0 : Int32) else 1 else 0 else 1) = 0 then if (p0 - p0 / 11 * 11) = 0 then if (zf_X5_in (p0 / 11) 2 18) = 0 then (0 : Int32) else 1 else 0 else 1) = 0 then if (p0 - p0 / 12 * 12) = 0 then if (zf_X5_in (p0 / 12) 2 18) = 0 then (0 : Int32) else 1 else 0 else 1)), (2, .int (13))]) 2 [1, 2, 0] dX5_isBid_67 rfl (by decide) (by decide) rfl rfl ?_
            refine zj_goto 33 X dX5_isBid_70 (by decide) ?_
            refine zj_iload_n 34 X 2 dX5_isBid_33 rfl rfl ?_
            refine zj_bipush 36 X (v := 13) dX5_isBid_34 (by decide) rfl ?_
            refine zj_icmp_ge 39 73 X dX5_isBid_36 (by decide) rfl (fun _ => ?_) (fun c26 => absurd c26 (by decide))
            refine zj_iload_n 74 X 1 dX5_isBid_73 rfl rfl ?_
            refine zj_if_ne 77 97 X dX5_isBid_74 (by decide) rfl (fun c27 => ?_) (fun c27 => ?_)
            · rw [if_neg c27] at hv
              refine zj_iconst 98 X (v := 1) dX5_isBid_97 (by decide) rfl ?_
              refine zj_goto 102 X dX5_isBid_98 (by decide) ?_
              exact ze_z X Y (by decide) hv dX5_isBid_102
            · rw [if_pos c27] at hv
              refine zj_iload_n 78 X 0 dX5_isBid_77 rfl rfl ?_
              refine zj_bipush 80 X (v := 24) dX5_isBid_78 (by decide) rfl ?_
              refine zj_irem 81 X dX5_isBid_80 (by decide) rfl ?_
              refine zj_if_ne 84 101 X dX5_isBid_81 (by decide) rfl (fun c28 => ?_) (fun c28 => ?_)
              · rw [if_neg c28] at hv
                refine zj_iconst 102 X (v := 0) dX5_isBid_101 (by decide) rfl ?_
                exact ze_z X Y (by decide) hv dX5_isBid_102
              · rw [if_pos c28] at hv
                refine zj_iload_n 85 X 0 dX5_isBid_84 rfl rfl ?_
                refine zj_bipush 87 X (v := 24) dX5_isBid_85 (by decide) rfl ?_
                refine zj_idiv 88 X dX5_isBid_87 (by decide) rfl ?_
                refine zj_iconst 89 X (v := 2) dX5_isBid_88 (by decide) rfl ?_
                refine zj_bipush 91 X (v := 11) dX5_isBid_89 (by decide) rfl ?_
                refine zc_i 94 (zr_S (As := [.int (p0 / 24), .int (2), .int (11)]) (rest := []) X (zc_X5_in (l := l) (p0 := p0 / 24) (p1 := 2) (p2 := 11)) zw_X5_104 zn_X5_in (zcR_of rfl) zs0 rfl (Nat.le_of_ble_eq_true rfl) dX5_isBid_91) rfl ?_
                refine zj_if_eq 97 101 X dX5_isBid_94 (by decide) rfl (fun c29 => ?_) (fun c29 => ?_)
                · rw [if_pos c29] at hv
                  refine zj_iconst 102 X (v := 0) dX5_isBid_101 (by decide) rfl ?_
                  exact ze_z X Y (by decide) hv dX5_isBid_102
                · rw [if_neg c29] at hv
                  refine zj_iconst 98 X (v := 1) dX5_isBid_97 (by decide) rfl ?_
                  refine zj_goto 102 X dX5_isBid_98 (by decide) ?_
                  exact ze_z X Y (by decide) hv dX5_isBid_102
          · refine zj_if_ne 43 61 X dX5_isBid_40 (by decide) rfl (fun c30 => ?_) (fun c30 => ?_)
            · refine zj_iconst 62 X (v := 1) dX5_isBid_61 (by decide) rfl ?_
              refine zj_goto 66 X dX5_isBid_62 (by decide) ?_
              simpa only [if_neg c30] using J25
            · refine zj_iload_n 44 X 0 dX5_isBid_43 rfl rfl ?_
              refine zj_iload_n 45 X 2 dX5_isBid_44 rfl rfl ?_
              refine zj_irem 46 X dX5_isBid_45 (by decide) rfl ?_
              refine zj_if_ne 49 65 X dX5_isBid_46 (by decide) rfl (fun c31 => ?_) (fun c31 => ?_)
              · refine zj_iconst 66 X (v := 0) dX5_isBid_65 (by decide) rfl ?_
                simpa only [if_pos c30, if_neg c31] using J25
              · refine zj_iload_n 50 X 0 dX5_isBid_49 rfl rfl ?_
                refine zj_iload_n 51 X 2 dX5_isBid_50 rfl rfl ?_
                refine zj_idiv 52 X dX5_isBid_51 (by decide) rfl ?_
                refine zj_iconst 53 X (v := 2) dX5_isBid_52 (by decide) rfl ?_
                refine zj_bipush 55 X (v := 18) dX5_isBid_53 (by decide) rfl ?_
                refine zc_i 58 (zr_S (As := [.int (p0 / 12), .int (2), .int (18)]) (rest := []) X (zc_X5_in (l := l) (p0 := p0 / 12) (p1 := 2) (p2 := 18)) zw_X5_104 zn_X5_in (zcR_of rfl) zs0 rfl (Nat.le_of_ble_eq_true rfl) dX5_isBid_55) rfl ?_
                refine zj_if_eq 61 65 X dX5_isBid_58 (by decide) rfl (fun c32 => ?_) (fun c32 => ?_)
                · refine zj_iconst 66 X (v := 0) dX5_isBid_65 (by decide) rfl ?_
                  simpa only [if_pos c30, if_pos c31, if_pos c32] using J25
                · refine zj_iconst 62 X (v := 1) dX5_isBid_61 (by decide) rfl ?_
                  refine zj_goto 66 X dX5_isBid_62 (by decide) ?_
                  simpa only [if_pos c30, if_pos c31, if_neg c32] using J25
        · refine zj_if_ne 43 61 X dX5_isBid_40 (by decide) rfl (fun c33 => ?_) (fun c33 => ?_)
          · refine zj_iconst 62 X (v := 1) dX5_isBid_61 (by decide) rfl ?_
            refine zj_goto 66 X dX5_isBid_62 (by decide) ?_
            simpa only [if_neg c33] using J20
          · refine zj_iload_n 44 X 0 dX5_isBid_43 rfl rfl ?_
            refine zj_iload_n 45 X 2 dX5_isBid_44 rfl rfl ?_
            refine zj_irem 46 X dX5_isBid_45 (by decide) rfl ?_
            refine zj_if_ne 49 65 X dX5_isBid_46 (by decide) rfl (fun c34 => ?_) (fun c34 => ?_)
            · refine zj_iconst 66 X (v := 0) dX5_isBid_65 (by decide) rfl ?_
              simpa only [if_pos c33, if_neg c34] using J20
            · refine zj_iload_n 50 X 0 dX5_isBid_49 rfl rfl ?_
              refine zj_iload_n 51 X 2 dX5_isBid_50 rfl rfl ?_
              refine zj_idiv 52 X dX5_isBid_51 (by decide) rfl ?_
              refine zj_iconst 53 X (v := 2) dX5_isBid_52 (by decide) rfl ?_
              refine zj_bipush 55 X (v := 18) dX5_isBid_53 (by decide) rfl ?_
              refine zc_i 58 (zr_S (As := [.int (p0 / 11), .int (2), .int (18)]) (rest := []) X (zc_X5_in (l := l) (p0 := p0 / 11) (p1 := 2) (p2 := 18)) zw_X5_104 zn_X5_in (zcR_of rfl) zs0 rfl (Nat.le_of_ble_eq_true rfl) dX5_isBid_55) rfl ?_
              refine zj_if_eq 61 65 X dX5_isBid_58 (by decide) rfl (fun c35 => ?_) (fun c35 => ?_)
              · refine zj_iconst 66 X (v := 0) dX5_isBid_65 (by decide) rfl ?_
                simpa only [if_pos c33, if_pos c34, if_pos c35] using J20
              · refine zj_iconst 62 X (v := 1) dX5_isBid_61 (by decide) rfl ?_
                refine zj_goto 66 X dX5_isBid_62 (by decide) ?_
                simpa only [if_pos c33, if_pos c34, if_neg c35] using J20
      · refine zj_if_ne 43 61 X dX5_isBid_40 (by decide) rfl (fun c36 => ?_) (fun c36 => ?_)
        · refine zj_iconst 62 X (v := 1) dX5_isBid_61 (by decide) rfl ?_
          refine zj_goto 66 X dX5_isBid_62 (by decide) ?_
          simpa only [if_neg c36] using J15
        · refine zj_iload_n 44 X 0 dX5_isBid_43 rfl rfl ?_
          refine zj_iload_n 45 X 2 dX5_isBid_44 rfl rfl ?_
          refine zj_irem 46 X dX5_isBid_45 (by decide) rfl ?_
          refine zj_if_ne 49 65 X dX5_isBid_46 (by decide) rfl (fun c37 => ?_) (fun c37 => ?_)
          · refine zj_iconst 66 X (v := 0) dX5_isBid_65 (by decide) rfl ?_
            simpa only [if_pos c36, if_neg c37] using J15
          · refine zj_iload_n 50 X 0 dX5_isBid_49 rfl rfl ?_
            refine zj_iload_n 51 X 2 dX5_isBid_50 rfl rfl ?_
            refine zj_idiv 52 X dX5_isBid_51 (by decide) rfl ?_
            refine zj_iconst 53 X (v := 2) dX5_isBid_52 (by decide) rfl ?_
            refine zj_bipush 55 X (v := 18) dX5_isBid_53 (by decide) rfl ?_
            refine zc_i 58 (zr_S (As := [.int (p0 / 10), .int (2), .int (18)]) (rest := []) X (zc_X5_in (l := l) (p0 := p0 / 10) (p1 := 2) (p2 := 18)) zw_X5_104 zn_X5_in (zcR_of rfl) zs0 rfl (Nat.le_of_ble_eq_true rfl) dX5_isBid_55) rfl ?_
            refine zj_if_eq 61 65 X dX5_isBid_58 (by decide) rfl (fun c38 => ?_) (fun c38 => ?_)
            · refine zj_iconst 66 X (v := 0) dX5_isBid_65 (by decide) rfl ?_
              simpa only [if_pos c36, if_pos c37, if_pos c38] using J15
            · refine zj_iconst 62 X (v := 1) dX5_isBid_61 (by decide) rfl ?_
              refine zj_goto 66 X dX5_isBid_62 (by decide) ?_
              simpa only [if_pos c36, if_pos c37, if_neg c38] using J15
    · refine zj_if_ne 43 61 X dX5_isBid_40 (by decide) rfl (fun c39 => ?_) (fun c39 => ?_)
      · refine zj_iconst 62 X (v := 1) dX5_isBid_61 (by decide) rfl ?_
        refine zj_goto 66 X dX5_isBid_62 (by decide) ?_
        simpa only [if_neg c39] using J10
      · refine zj_iload_n 44 X 0 dX5_isBid_43 rfl rfl ?_
        refine zj_iload_n 45 X 2 dX5_isBid_44 rfl rfl ?_
        refine zj_irem 46 X dX5_isBid_45 (by decide) rfl ?_
        refine zj_if_ne 49 65 X dX5_isBid_46 (by decide) rfl (fun c40 => ?_) (fun c40 => ?_)
        · refine zj_iconst 66 X (v := 0) dX5_isBid_65 (by decide) rfl ?_
          simpa only [if_pos c39, if_neg c40] using J10
        · refine zj_iload_n 50 X 0 dX5_isBid_49 rfl rfl ?_
          refine zj_iload_n 51 X 2 dX5_isBid_50 rfl rfl ?_
          refine zj_idiv 52 X dX5_isBid_51 (by decide) rfl ?_
          refine zj_iconst 53 X (v := 2) dX5_isBid_52 (by decide) rfl ?_
          refine zj_bipush 55 X (v := 18) dX5_isBid_53 (by decide) rfl ?_
          refine zc_i 58 (zr_S (As := [.int (p0 / 9), .int (2), .int (18)]) (rest := []) X (zc_X5_in (l := l) (p0 := p0 / 9) (p1 := 2) (p2 := 18)) zw_X5_104 zn_X5_in (zcR_of rfl) zs0 rfl (Nat.le_of_ble_eq_true rfl) dX5_isBid_55) rfl ?_
          refine zj_if_eq 61 65 X dX5_isBid_58 (by decide) rfl (fun c41 => ?_) (fun c41 => ?_)
          · refine zj_iconst 66 X (v := 0) dX5_isBid_65 (by decide) rfl ?_
            simpa only [if_pos c39, if_pos c40, if_pos c41] using J10
          · refine zj_iconst 62 X (v := 1) dX5_isBid_61 (by decide) rfl ?_
            refine zj_goto 66 X dX5_isBid_62 (by decide) ?_
            simpa only [if_pos c39, if_pos c40, if_neg c41] using J10
  · refine zj_icmp_eq 6 24 X dX5_isBid_3 (by decide) rfl (fun c42 => ?_) (fun c42 => ?_)
    · refine zj_iconst 25 X (v := 1) dX5_isBid_24 (by decide) rfl ?_
      refine zj_goto 29 X dX5_isBid_25 (by decide) ?_
      simpa only [if_pos c42] using J5
    · refine zj_iload_n 7 X 0 dX5_isBid_6 rfl rfl ?_
      refine zj_bipush 9 X (v := 35) dX5_isBid_7 (by decide) rfl ?_
      refine zj_icmp_eq 12 24 X dX5_isBid_9 (by decide) rfl (fun c43 => ?_) (fun c43 => ?_)
      · refine zj_iconst 25 X (v := 1) dX5_isBid_24 (by decide) rfl ?_
        refine zj_goto 29 X dX5_isBid_25 (by decide) ?_
        simpa only [if_neg c42, if_pos c43] using J5
      · refine zj_iload_n 13 X 0 dX5_isBid_12 rfl rfl ?_
        refine zj_bipush 15 X (v := 46) dX5_isBid_13 (by decide) rfl ?_
        refine zj_icmp_eq 18 24 X dX5_isBid_15 (by decide) rfl (fun c44 => ?_) (fun c44 => ?_)
        · refine zj_iconst 25 X (v := 1) dX5_isBid_24 (by decide) rfl ?_
          refine zj_goto 29 X dX5_isBid_25 (by decide) ?_
          simpa only [if_neg c42, if_neg c43, if_pos c44] using J5
        · refine zj_iload_n 19 X 0 dX5_isBid_18 rfl rfl ?_
          refine zj_bipush 21 X (v := 59) dX5_isBid_19 (by decide) rfl ?_
          refine zj_icmp_ne 24 28 X dX5_isBid_21 (by decide) rfl (fun c45 => ?_) (fun c45 => ?_)
          · refine zj_iconst 29 X (v := 0) dX5_isBid_28 (by decide) rfl ?_
            simpa only [if_neg c42, if_neg c43, if_neg c44, if_neg c45] using J5
          · refine zj_iconst 25 X (v := 1) dX5_isBid_24 (by decide) rfl ?_
            refine zj_goto 29 X dX5_isBid_25 (by decide) ?_
            simpa only [if_neg c42, if_neg c43, if_neg c44, if_pos c45] using J5
theorem znb264 {i : Nat} (h : i + 0 = 264) : ¬ zf_X5_isBid (nI i) = 0 := by
  obtain rfl : i = 264 := h
  decide
def zf_X5_bid (v : zN) (p0 : Int32) : Int32 × zN := if (zf_X5_isBid p0) = 0 then (0, zmI1 v 0 1) else (if (zmI v 2) = 0 then (if (zmI v 11) < p0 then (if (zmI v 10) = 2 then (zmI (zf_X5_declares (zmI1 (zmI1 v 0 0) 11 p0) (zmI v 3)) 3, (zf_X5_declares (zmI1 (zmI1 v 0 0) 11 p0) (zmI v 3))) else (zmI (zf_X5_turns (zmI1 (zmI1 v 0 0) 11 p0) 1 (zmI v 9)) 3, (zf_X5_turns (zmI1 (zmI1 v 0 0) 11 p0) 1 (zmI v 9)))) else (0, zmI1 v 0 2)) else (0, zmI1 v 0 2))
abbrev zR_X5_bid : Room := { frames := 2, cells := 0, slots := 0, locals := 44 }
set_option maxHeartbeats 4000000 in
set_option maxRecDepth 100000 in
theorem zc_X5_bid {l : Launch} {D : va_G} {C : ClassId × ClassId} {a : Nat → Nat} {v : zN} {p0 : Int32} : zk_Mm l yX5_bid cX5_bid 2 (some .int) zR_X5_bid [.ref (a 0), .int (p0)] (zM C a v) D C (fun A => va_Qi (fun r u' => (r, u') = zf_X5_bid v p0) (fun u' t => va_P D vwCl (zM C a u') t.heap) A) := by
  refine zk_mm (by decide) (Nat.le_of_ble_eq_true rfl) ?_
  intro p e s m below meth c A X Y hD hA
  generalize hv : zf_X5_bid v p0 = V
  unfold zf_X5_bid at hv
  show zJ _ _ _ _ _ _ _ _ _ _ _ _ _ _ _ _ _ 0 [(0, .ref (a 0)), (1, .int (p0))] []
  refine zj_aload_n 1 X 0 dX5_bid_0 rfl rfl ?_
  refine zj_iload_n 2 X 1 dX5_bid_1 rfl rfl ?_
  refine zc_i 5 (zr_S (As := [.int (p0)]) (rest := [.ref (a 0)]) X (zc_X5_isBid (l := l) (p0 := p0)) zw_X5_108 zn_X5_isBid (zcR_of rfl) zs0 rfl (Nat.le_of_ble_eq_true rfl) dX5_bid_2) rfl ?_
  refine zj_if_ne 8 12 X dX5_bid_5 (by decide) rfl (fun c1 => ?_) (fun c1 => ?_)
  · rw [if_neg c1] at hv
    refine zj_aload_n 13 X 0 dX5_bid_12 rfl rfl ?_
    refine zg_RX5_94 16 X (w := zmI v 2) rfl dX5_bid_13 rfl ?_
    refine zj_if_ne 19 27 X dX5_bid_16 (by decide) rfl (fun c2 => ?_) (fun c2 => ?_)
    · rw [if_neg c2] at hv
      refine zj_iconst 28 X (v := 2) dX5_bid_27 (by decide) rfl ?_
      refine zj_goto 32 X dX5_bid_28 (by decide) ?_
      refine zc_im 35 (Wd := zM C a) (zr_Vm (As := [.int (2)]) (rest := []) X (zc_X5_holds (l := l) (p0 := 2) (v := v)) zw_X5_100 zn_X5_holds (zcR_of rfl) zO_M (zD_M _ hD) hA rfl (Nat.le_of_ble_eq_true rfl) dX5_bid_32) (zD_M _ hD) hA rfl ?_
      show zJ _ _ _ _ _ _ _ _ _ _ _ _ _ _ _ _ (zM C a (zmI1 v 0 2)) 35 [(0, .ref (a 0)), (1, .int (p0))] [.int (0)]
      refine zj_if_ne 38 40 X dX5_bid_35 (by decide) rfl (fun c3 => absurd c3 (by decide)) (fun _ => ?_)
      refine zj_iconst 39 X (v := 0) dX5_bid_38 (by decide) rfl ?_
      exact ze_im (Wd := zM C a) (u := zmI1 v 0 2) X Y hv dX5_bid_39
    · rw [if_pos c2] at hv
      refine zj_iload_n 20 X 1 dX5_bid_19 rfl rfl ?_
      refine zj_aload_n 21 X 0 dX5_bid_20 rfl rfl ?_
      refine zg_RX5_58 24 X (w := zmI v 11) rfl dX5_bid_21 rfl ?_
      refine zj_icmp_gt 27 31 X dX5_bid_24 (by decide) rfl (fun c4 => ?_) (fun c4 => ?_)
      · rw [if_pos c4] at hv
        refine zj_iconst 32 X (v := 0) dX5_bid_31 (by decide) rfl ?_
        refine zc_im 35 (Wd := zM C a) (zr_Vm (As := [.int (0)]) (rest := []) X (zc_X5_holds (l := l) (p0 := 0) (v := v)) zw_X5_100 zn_X5_holds (zcR_of rfl) zO_M (zD_M _ hD) hA rfl (Nat.le_of_ble_eq_true rfl) dX5_bid_32) (zD_M _ hD) hA rfl ?_
        show zJ _ _ _ _ _ _ _ _ _ _ _ _ _ _ _ _ (zM C a (zmI1 v 0 0)) 35 [(0, .ref (a 0)), (1, .int (p0))] [.int (1)]
        refine zj_if_ne 38 40 X dX5_bid_35 (by decide) rfl (fun _ => ?_) (fun c5 => absurd c5 (by decide))
        refine zj_aload_n 41 X 0 dX5_bid_40 rfl rfl ?_
        refine zj_iload_n 42 X 1 dX5_bid_41 rfl rfl ?_
        refine zp_RX5_58 45 X (zD_M _ hD) dX5_bid_42 rfl ?_
        refine zj_aload_n 46 X 0 dX5_bid_45 rfl rfl ?_
        refine zg_RX5_77 49 X (w := zmI v 10) rfl dX5_bid_46 rfl ?_
        refine zj_iconst 50 X (v := 2) dX5_bid_49 (by decide) rfl ?_
        refine zj_icmp_ne 53 64 X dX5_bid_50 (by decide) rfl (fun c6 => ?_) (fun c6 => ?_)
        · rw [if_neg c6] at hv
          refine zj_aload_n 65 X 0 dX5_bid_64 rfl rfl ?_
          refine zj_iconst 66 X (v := 1) dX5_bid_65 (by decide) rfl ?_
          refine zj_aload_n 67 X 0 dX5_bid_66 rfl rfl ?_
          refine zg_RX5_84 70 X (w := zmI v 9) rfl dX5_bid_67 rfl ?_
          refine zc_vm 73 (Wd := zM C a) (zr_Vm (As := [.int (1), .int (zmI v 9)]) (rest := []) X (zc_X5_turns (l := l) (p0 := 1) (p1 := zmI v 9) (v := zmI1 (zmI1 v 0 0) 11 p0)) zw_X5_90 zn_X5_turns (zcR_of rfl) zO_M (zD_M _ hD) hA rfl (Nat.le_of_ble_eq_true rfl) dX5_bid_70) (zD_M _ hD) hA rfl ?_
          refine zj_aload_n 74 X 0 dX5_bid_73 rfl rfl ?_
          refine zg_RX5_97 77 X (w := zmI (zf_X5_turns (zmI1 (zmI1 v 0 0) 11 p0) 1 (zmI v 9)) 3) rfl dX5_bid_74 rfl ?_
          exact ze_im (Wd := zM C a) (u := (zf_X5_turns (zmI1 (zmI1 v 0 0) 11 p0) 1 (zmI v 9))) X Y hv dX5_bid_77
        · rw [if_pos c6] at hv
          refine zj_aload_n 54 X 0 dX5_bid_53 rfl rfl ?_
          refine zj_aload_n 55 X 0 dX5_bid_54 rfl rfl ?_
          refine zg_RX5_97 58 X (w := zmI v 3) rfl dX5_bid_55 rfl ?_
          refine zc_vm 61 (Wd := zM C a) (zr_Vm (As := [.int (zmI v 3)]) (rest := []) X (zc_X5_declares (l := l) (p0 := zmI v 3) (v := zmI1 (zmI1 v 0 0) 11 p0)) zw_X5_111 zn_X5_declares (zcR_of rfl) zO_M (zD_M _ hD) hA rfl (Nat.le_of_ble_eq_true rfl) dX5_bid_58) (zD_M _ hD) hA rfl ?_
          refine zj_goto 73 X dX5_bid_61 (by decide) ?_
          refine zj_aload_n 74 X 0 dX5_bid_73 rfl rfl ?_
          refine zg_RX5_97 77 X (w := zmI (zf_X5_declares (zmI1 (zmI1 v 0 0) 11 p0) (zmI v 3)) 3) rfl dX5_bid_74 rfl ?_
          exact ze_im (Wd := zM C a) (u := (zf_X5_declares (zmI1 (zmI1 v 0 0) 11 p0) (zmI v 3))) X Y hv dX5_bid_77
      · rw [if_neg c4] at hv
        refine zj_iconst 28 X (v := 2) dX5_bid_27 (by decide) rfl ?_
        refine zj_goto 32 X dX5_bid_28 (by decide) ?_
        refine zc_im 35 (Wd := zM C a) (zr_Vm (As := [.int (2)]) (rest := []) X (zc_X5_holds (l := l) (p0 := 2) (v := v)) zw_X5_100 zn_X5_holds (zcR_of rfl) zO_M (zD_M _ hD) hA rfl (Nat.le_of_ble_eq_true rfl) dX5_bid_32) (zD_M _ hD) hA rfl ?_
        show zJ _ _ _ _ _ _ _ _ _ _ _ _ _ _ _ _ (zM C a (zmI1 v 0 2)) 35 [(0, .ref (a 0)), (1, .int (p0))] [.int (0)]
        refine zj_if_ne 38 40 X dX5_bid_35 (by decide) rfl (fun c7 => absurd c7 (by decide)) (fun _ => ?_)
        refine zj_iconst 39 X (v := 0) dX5_bid_38 (by decide) rfl ?_
        exact ze_im (Wd := zM C a) (u := zmI1 v 0 2) X Y hv dX5_bid_39
  · rw [if_pos c1] at hv
    refine zj_iconst 9 X (v := 1) dX5_bid_8 (by decide) rfl ?_
    refine zj_goto 32 X dX5_bid_9 (by decide) ?_
    refine zc_im 35 (Wd := zM C a) (zr_Vm (As := [.int (1)]) (rest := []) X (zc_X5_holds (l := l) (p0 := 1) (v := v)) zw_X5_100 zn_X5_holds (zcR_of rfl) zO_M (zD_M _ hD) hA rfl (Nat.le_of_ble_eq_true rfl) dX5_bid_32) (zD_M _ hD) hA rfl ?_
    show zJ _ _ _ _ _ _ _ _ _ _ _ _ _ _ _ _ (zM C a (zmI1 v 0 1)) 35 [(0, .ref (a 0)), (1, .int (p0))] [.int (0)]
    refine zj_if_ne 38 40 X dX5_bid_35 (by decide) rfl (fun c8 => absurd c8 (by decide)) (fun _ => ?_)
    refine zj_iconst 39 X (v := 0) dX5_bid_38 (by decide) rfl ?_
    exact ze_im (Wd := zM C a) (u := zmI1 v 0 1) X Y hv dX5_bid_39
def zf_X5_hold (v : zN) : Int32 × zN := if (zmI v 2) = 1 then (zmI (zf_X5_turns (zmI1 v 0 0) 0 (zmI v 8)) 3, (zf_X5_turns (zmI1 v 0 0) 0 (zmI v 8))) else (0, zmI1 v 0 1)
abbrev zR_X5_hold : Room := { frames := 1, cells := 0, slots := 0, locals := 22 }
set_option maxHeartbeats 4000000 in
set_option maxRecDepth 100000 in
theorem zc_X5_hold {l : Launch} {D : va_G} {C : ClassId × ClassId} {a : Nat → Nat} {v : zN} : zk_Mm l yX5_hold cX5_hold 1 (some .int) zR_X5_hold [.ref (a 0)] (zM C a v) D C (fun A => va_Qi (fun r u' => (r, u') = zf_X5_hold v) (fun u' t => va_P D vwCl (zM C a u') t.heap) A) := by
  refine zk_mm (by decide) (Nat.le_of_ble_eq_true rfl) ?_
  intro p e s m below meth c A X Y hD hA
  generalize hv : zf_X5_hold v = V
  unfold zf_X5_hold at hv
  show zJ _ _ _ _ _ _ _ _ _ _ _ _ _ _ _ _ _ 0 [(0, .ref (a 0))] []
  refine zj_aload_n 1 X 0 dX5_hold_0 rfl rfl ?_
  refine zj_aload_n 2 X 0 dX5_hold_1 rfl rfl ?_
  refine zg_RX5_94 5 X (w := zmI v 2) rfl dX5_hold_2 rfl ?_
  refine zj_iconst 6 X (v := 1) dX5_hold_5 (by decide) rfl ?_
  refine zj_icmp_ne 9 13 X dX5_hold_6 (by decide) rfl (fun c1 => ?_) (fun c1 => ?_)
  · rw [if_neg c1] at hv
    refine zj_iconst 14 X (v := 1) dX5_hold_13 (by decide) rfl ?_
    refine zc_im 17 (Wd := zM C a) (zr_Vm (As := [.int (1)]) (rest := []) X (zc_X5_holds (l := l) (p0 := 1) (v := v)) zw_X5_100 zn_X5_holds (zcR_of rfl) zO_M (zD_M _ hD) hA rfl (Nat.le_of_ble_eq_true rfl) dX5_hold_14) (zD_M _ hD) hA rfl ?_
    show zJ _ _ _ _ _ _ _ _ _ _ _ _ _ _ _ _ (zM C a (zmI1 v 0 1)) 17 [(0, .ref (a 0))] [.int (0)]
    refine zj_if_ne 20 22 X dX5_hold_17 (by decide) rfl (fun c2 => absurd c2 (by decide)) (fun _ => ?_)
    refine zj_iconst 21 X (v := 0) dX5_hold_20 (by decide) rfl ?_
    exact ze_im (Wd := zM C a) (u := zmI1 v 0 1) X Y hv dX5_hold_21
  · rw [if_pos c1] at hv
    refine zj_iconst 10 X (v := 0) dX5_hold_9 (by decide) rfl ?_
    refine zj_goto 14 X dX5_hold_10 (by decide) ?_
    refine zc_im 17 (Wd := zM C a) (zr_Vm (As := [.int (0)]) (rest := []) X (zc_X5_holds (l := l) (p0 := 0) (v := v)) zw_X5_100 zn_X5_holds (zcR_of rfl) zO_M (zD_M _ hD) hA rfl (Nat.le_of_ble_eq_true rfl) dX5_hold_14) (zD_M _ hD) hA rfl ?_
    show zJ _ _ _ _ _ _ _ _ _ _ _ _ _ _ _ _ (zM C a (zmI1 v 0 0)) 17 [(0, .ref (a 0))] [.int (1)]
    refine zj_if_ne 20 22 X dX5_hold_17 (by decide) rfl (fun _ => ?_) (fun c3 => absurd c3 (by decide))
    refine zj_aload_n 23 X 0 dX5_hold_22 rfl rfl ?_
    refine zj_iconst 24 X (v := 0) dX5_hold_23 (by decide) rfl ?_
    refine zj_aload_n 25 X 0 dX5_hold_24 rfl rfl ?_
    refine zg_RX5_87 28 X (w := zmI v 8) rfl dX5_hold_25 rfl ?_
    refine zc_vm 31 (Wd := zM C a) (zr_Vm (As := [.int (0), .int (zmI v 8)]) (rest := []) X (zc_X5_turns (l := l) (p0 := 0) (p1 := zmI v 8) (v := zmI1 v 0 0)) zw_X5_90 zn_X5_turns (zcR_of rfl) zO_M (zD_M _ hD) hA rfl (Nat.le_of_ble_eq_true rfl) dX5_hold_28) (zD_M _ hD) hA rfl ?_
    refine zj_aload_n 32 X 0 dX5_hold_31 rfl rfl ?_
    refine zg_RX5_97 35 X (w := zmI (zf_X5_turns (zmI1 v 0 0) 0 (zmI v 8)) 3) rfl dX5_hold_32 rfl ?_
    exact ze_im (Wd := zM C a) (u := (zf_X5_turns (zmI1 v 0 0) 0 (zmI v 8))) X Y hv dX5_hold_35
def zf_X5_pass (v : zN) : Int32 × zN := if (zmI v 2) = 0 then (if (zmI v 10) = 2 then (zmI (zf_X5_leads (zmI1 (zmI1 v 0 0) 13 6)) 3, (zf_X5_leads (zmI1 (zmI1 v 0 0) 13 6))) else (if (zmI v 10) = 0 then (zmI (zf_X5_turns (zmI1 (zmI1 (zmI1 (zmI1 v 0 0) 10 1) 9 (zmI v 9)) 8 (((zf_X5_forehand (zmI1 (zmI1 (zmI1 v 0 0) 10 1) 9 (zmI v 9))) + 2) - ((zf_X5_forehand (zmI1 (zmI1 (zmI1 v 0 0) 10 1) 9 (zmI v 9))) + 2) / 3 * 3)) 0 (((zf_X5_forehand (zmI1 (zmI1 (zmI1 v 0 0) 10 1) 9 (zmI v 9))) + 2) - ((zf_X5_forehand (zmI1 (zmI1 (zmI1 v 0 0) 10 1) 9 (zmI v 9))) + 2) / 3 * 3)) 3, (zf_X5_turns (zmI1 (zmI1 (zmI1 (zmI1 v 0 0) 10 1) 9 (zmI v 9)) 8 (((zf_X5_forehand (zmI1 (zmI1 (zmI1 v 0 0) 10 1) 9 (zmI v 9))) + 2) - ((zf_X5_forehand (zmI1 (zmI1 (zmI1 v 0 0) 10 1) 9 (zmI v 9))) + 2) / 3 * 3)) 0 (((zf_X5_forehand (zmI1 (zmI1 (zmI1 v 0 0) 10 1) 9 (zmI v 9))) + 2) - ((zf_X5_forehand (zmI1 (zmI1 (zmI1 v 0 0) 10 1) 9 (zmI v 9))) + 2) / 3 * 3))) else (if (zmI v 11) ≤ 0 then (zmI (zf_X5_turns (zmI1 (zmI1 (zmI1 v 0 0) 10 2) 8 (zmI v 9)) 0 (zmI v 9)) 3, (zf_X5_turns (zmI1 (zmI1 (zmI1 v 0 0) 10 2) 8 (zmI v 9)) 0 (zmI v 9))) else (zmI (zf_X5_declares (zmI1 v 0 0) (zmI v 9)) 3, (zf_X5_declares (zmI1 v 0 0) (zmI v 9)))))) else (if (zmI v 2) = 1 then (if (zmI v 10) = 2 then (zmI (zf_X5_leads (zmI1 (zmI1 v 0 0) 13 6)) 3, (zf_X5_leads (zmI1 (zmI1 v 0 0) 13 6))) else (if (zmI v 10) = 0 then (zmI (zf_X5_turns (zmI1 (zmI1 (zmI1 (zmI1 v 0 0) 10 1) 9 (zmI v 8)) 8 (((zf_X5_forehand (zmI1 (zmI1 (zmI1 v 0 0) 10 1) 9 (zmI v 8))) + 2) - ((zf_X5_forehand (zmI1 (zmI1 (zmI1 v 0 0) 10 1) 9 (zmI v 8))) + 2) / 3 * 3)) 0 (((zf_X5_forehand (zmI1 (zmI1 (zmI1 v 0 0) 10 1) 9 (zmI v 8))) + 2) - ((zf_X5_forehand (zmI1 (zmI1 (zmI1 v 0 0) 10 1) 9 (zmI v 8))) + 2) / 3 * 3)) 3, (zf_X5_turns (zmI1 (zmI1 (zmI1 (zmI1 v 0 0) 10 1) 9 (zmI v 8)) 8 (((zf_X5_forehand (zmI1 (zmI1 (zmI1 v 0 0) 10 1) 9 (zmI v 8))) + 2) - ((zf_X5_forehand (zmI1 (zmI1 (zmI1 v 0 0) 10 1) 9 (zmI v 8))) + 2) / 3 * 3)) 0 (((zf_X5_forehand (zmI1 (zmI1 (zmI1 v 0 0) 10 1) 9 (zmI v 8))) + 2) - ((zf_X5_forehand (zmI1 (zmI1 (zmI1 v 0 0) 10 1) 9 (zmI v 8))) + 2) / 3 * 3))) else (if (zmI v 11) ≤ 0 then (zmI (zf_X5_turns (zmI1 (zmI1 (zmI1 v 0 0) 10 2) 8 (zmI v 8)) 0 (zmI v 8)) 3, (zf_X5_turns (zmI1 (zmI1 (zmI1 v 0 0) 10 2) 8 (zmI v 8)) 0 (zmI v 8))) else (zmI (zf_X5_declares (zmI1 v 0 0) (zmI v 8)) 3, (zf_X5_declares (zmI1 v 0 0) (zmI v 8)))))) else (0, zmI1 v 0 1))
abbrev zR_X5_pass : Room := { frames := 2, cells := 0, slots := 0, locals := 43 }
set_option maxHeartbeats 4000000 in
set_option maxRecDepth 100000 in
theorem zc_X5_pass {l : Launch} {D : va_G} {C : ClassId × ClassId} {a : Nat → Nat} {v : zN} : zk_Mm l yX5_pass cX5_pass 2 (some .int) zR_X5_pass [.ref (a 0)] (zM C a v) D C (fun A => va_Qi (fun r u' => (r, u') = zf_X5_pass v) (fun u' t => va_P D vwCl (zM C a u') t.heap) A) := by
  refine zk_mm (by decide) (Nat.le_of_ble_eq_true rfl) ?_
  intro p e s m below meth c A X Y hD hA
  generalize hv : zf_X5_pass v = V
  unfold zf_X5_pass at hv
  show zJ _ _ _ _ _ _ _ _ _ _ _ _ _ _ _ _ _ 0 [(0, .ref (a 0))] []
  refine zj_aload_n 1 X 0 dX5_pass_0 rfl rfl ?_
  refine zj_aload_n 2 X 0 dX5_pass_1 rfl rfl ?_
  refine zg_RX5_94 5 X (w := zmI v 2) rfl dX5_pass_2 rfl ?_
  refine zj_if_eq 8 16 X dX5_pass_5 (by decide) rfl (fun c1 => ?_) (fun c1 => ?_)
  · rw [if_pos c1] at hv
    refine zj_iconst 17 X (v := 0) dX5_pass_16 (by decide) rfl ?_
    refine zj_goto 21 X dX5_pass_17 (by decide) ?_
    refine zc_im 24 (Wd := zM C a) (zr_Vm (As := [.int (0)]) (rest := []) X (zc_X5_holds (l := l) (p0 := 0) (v := v)) zw_X5_100 zn_X5_holds (zcR_of rfl) zO_M (zD_M _ hD) hA rfl (Nat.le_of_ble_eq_true rfl) dX5_pass_21) (zD_M _ hD) hA rfl ?_
    show zJ _ _ _ _ _ _ _ _ _ _ _ _ _ _ _ _ (zM C a (zmI1 v 0 0)) 24 [(0, .ref (a 0))] [.int (1)]
    refine zj_if_ne 27 29 X dX5_pass_24 (by decide) rfl (fun _ => ?_) (fun c2 => absurd c2 (by decide))
    refine zj_aload_n 30 X 0 dX5_pass_29 rfl rfl ?_
    refine zg_RX5_94 33 X (w := zmI v 2) rfl dX5_pass_30 rfl ?_
    refine zj_if_ne 36 43 X dX5_pass_33 (by decide) rfl (fun c3 => absurd c1 c3) (fun _ => ?_)
    refine zj_aload_n 37 X 0 dX5_pass_36 rfl rfl ?_
    refine zg_RX5_84 40 X (w := zmI v 9) rfl dX5_pass_37 rfl ?_
    refine zj_goto 47 X dX5_pass_40 (by decide) ?_
    refine zj_istore_n 48 X (lv1 := [(0, .ref (a 0)), (1, .int (zmI v 9))]) [1, 0] dX5_pass_47 (by decide) rfl rfl ?_
    refine zj_aload_n 49 X 0 dX5_pass_48 rfl rfl ?_
    refine zg_RX5_77 52 X (w := zmI v 10) rfl dX5_pass_49 rfl ?_
    refine zj_iconst 53 X (v := 2) dX5_pass_52 (by decide) rfl ?_
    refine zj_icmp_ne 56 69 X dX5_pass_53 (by decide) rfl (fun c4 => ?_) (fun c4 => ?_)
    · rw [if_neg c4] at hv
      refine zj_aload_n 70 X 0 dX5_pass_69 rfl rfl ?_
      refine zg_RX5_77 73 X (w := zmI v 10) rfl dX5_pass_70 rfl ?_
      refine zj_if_ne 76 110 X dX5_pass_73 (by decide) rfl (fun c5 => ?_) (fun c5 => ?_)
      · rw [if_neg c5] at hv
        refine zj_aload_n 111 X 0 dX5_pass_110 rfl rfl ?_
        refine zg_RX5_58 114 X (w := zmI v 11) rfl dX5_pass_111 rfl ?_
        refine zj_if_le 117 125 X dX5_pass_114 (by decide) rfl (fun c6 => ?_) (fun c6 => ?_)
        · rw [if_pos c6] at hv
          refine zj_aload_n 126 X 0 dX5_pass_125 rfl rfl ?_
          refine zj_iconst 127 X (v := 2) dX5_pass_126 (by decide) rfl ?_
          refine zp_RX5_77 130 X (zD_M _ hD) dX5_pass_127 rfl ?_
          refine zj_aload_n 131 X 0 dX5_pass_130 rfl rfl ?_
          refine zj_iload_n 132 X 1 dX5_pass_131 rfl rfl ?_
          refine zp_RX5_87 135 X (zD_M _ hD) dX5_pass_132 rfl ?_
          refine zj_aload_n 136 X 0 dX5_pass_135 rfl rfl ?_
          refine zj_iconst 137 X (v := 0) dX5_pass_136 (by decide) rfl ?_
          refine zj_aload_n 138 X 0 dX5_pass_137 rfl rfl ?_
          refine zg_RX5_87 141 X (w := zmI v 9) rfl dX5_pass_138 rfl ?_
          refine zc_vm 144 (Wd := zM C a) (zr_Vm (As := [.int (0), .int (zmI v 9)]) (rest := []) X (zc_X5_turns (l := l) (p0 := 0) (p1 := zmI v 9) (v := zmI1 (zmI1 (zmI1 v 0 0) 10 2) 8 (zmI v 9))) zw_X5_90 zn_X5_turns (zcR_of rfl) zO_M (zD_M _ hD) hA rfl (Nat.le_of_ble_eq_true rfl) dX5_pass_141) (zD_M _ hD) hA rfl ?_
          refine zj_aload_n 145 X 0 dX5_pass_144 rfl rfl ?_
          refine zg_RX5_97 148 X (w := zmI (zf_X5_turns (zmI1 (zmI1 (zmI1 v 0 0) 10 2) 8 (zmI v 9)) 0 (zmI v 9)) 3) rfl dX5_pass_145 rfl ?_
          exact ze_im (Wd := zM C a) (u := (zf_X5_turns (zmI1 (zmI1 (zmI1 v 0 0) 10 2) 8 (zmI v 9)) 0 (zmI v 9))) X Y hv dX5_pass_148
        · rw [if_neg c6] at hv
          refine zj_aload_n 118 X 0 dX5_pass_117 rfl rfl ?_
          refine zj_iload_n 119 X 1 dX5_pass_118 rfl rfl ?_
          refine zc_vm 122 (Wd := zM C a) (zr_Vm (As := [.int (zmI v 9)]) (rest := []) X (zc_X5_declares (l := l) (p0 := zmI v 9) (v := zmI1 v 0 0)) zw_X5_111 zn_X5_declares (zcR_of rfl) zO_M (zD_M _ hD) hA rfl (Nat.le_of_ble_eq_true rfl) dX5_pass_119) (zD_M _ hD) hA rfl ?_
          refine zj_goto 144 X dX5_pass_122 (by decide) ?_
          refine zj_aload_n 145 X 0 dX5_pass_144 rfl rfl ?_
          refine zg_RX5_97 148 X (w := zmI (zf_X5_declares (zmI1 v 0 0) (zmI v 9)) 3) rfl dX5_pass_145 rfl ?_
          exact ze_im (Wd := zM C a) (u := (zf_X5_declares (zmI1 v 0 0) (zmI v 9))) X Y hv dX5_pass_148
      · rw [if_pos c5] at hv
        refine zj_aload_n 77 X 0 dX5_pass_76 rfl rfl ?_
        refine zj_iconst 78 X (v := 1) dX5_pass_77 (by decide) rfl ?_
        refine zp_RX5_77 81 X (zD_M _ hD) dX5_pass_78 rfl ?_
        refine zj_aload_n 82 X 0 dX5_pass_81 rfl rfl ?_
        refine zj_iload_n 83 X 1 dX5_pass_82 rfl rfl ?_
        refine zp_RX5_84 86 X (zD_M _ hD) dX5_pass_83 rfl ?_
        refine zj_aload_n 87 X 0 dX5_pass_86 rfl rfl ?_
        refine zj_aload_n 88 X 0 dX5_pass_87 rfl rfl ?_
        refine zc_i 91 (zr_V (As := []) (rest := [.ref (a 0)]) X (zc_X5_forehand (l := l) (v := zmI1 (zmI1 (zmI1 v 0 0) 10 1) 9 (zmI v 9))) zw_X5_80 zn_X5_forehand (zcR_of rfl) zO_M zsI rfl (Nat.le_of_ble_eq_true rfl) dX5_pass_88) rfl ?_
        refine zj_iconst 92 X (v := 2) dX5_pass_91 (by decide) rfl ?_
        refine zj_iadd 93 X dX5_pass_92 rfl ?_
        refine zj_iconst 94 X (v := 3) dX5_pass_93 (by decide) rfl ?_
        refine zj_irem 95 X dX5_pass_94 (by decide) rfl ?_
        refine zp_RX5_87 98 X (zD_M _ hD) dX5_pass_95 rfl ?_
        refine zj_aload_n 99 X 0 dX5_pass_98 rfl rfl ?_
        refine zj_iconst 100 X (v := 0) dX5_pass_99 (by decide) rfl ?_
        refine zj_aload_n 101 X 0 dX5_pass_100 rfl rfl ?_
        refine zg_RX5_87 104 X (w := ((zf_X5_forehand (zmI1 (zmI1 (zmI1 v 0 0) 10 1) 9 (zmI v 9))) + 2) - ((zf_X5_forehand (zmI1 (zmI1 (zmI1 v 0 0) 10 1) 9 (zmI v 9))) + 2) / 3 * 3) rfl dX5_pass_101 rfl ?_
        refine zc_vm 107 (Wd := zM C a) (zr_Vm (As := [.int (0), .int (((zf_X5_forehand (zmI1 (zmI1 (zmI1 v 0 0) 10 1) 9 (zmI v 9))) + 2) - ((zf_X5_forehand (zmI1 (zmI1 (zmI1 v 0 0) 10 1) 9 (zmI v 9))) + 2) / 3 * 3)]) (rest := []) X (zc_X5_turns (l := l) (p0 := 0) (p1 := ((zf_X5_forehand (zmI1 (zmI1 (zmI1 v 0 0) 10 1) 9 (zmI v 9))) + 2) - ((zf_X5_forehand (zmI1 (zmI1 (zmI1 v 0 0) 10 1) 9 (zmI v 9))) + 2) / 3 * 3) (v := zmI1 (zmI1 (zmI1 (zmI1 v 0 0) 10 1) 9 (zmI v 9)) 8 (((zf_X5_forehand (zmI1 (zmI1 (zmI1 v 0 0) 10 1) 9 (zmI v 9))) + 2) - ((zf_X5_forehand (zmI1 (zmI1 (zmI1 v 0 0) 10 1) 9 (zmI v 9))) + 2) / 3 * 3))) zw_X5_90 zn_X5_turns (zcR_of rfl) zO_M (zD_M _ hD) hA rfl (Nat.le_of_ble_eq_true rfl) dX5_pass_104) (zD_M _ hD) hA rfl ?_
        refine zj_goto 144 X dX5_pass_107 (by decide) ?_
        refine zj_aload_n 145 X 0 dX5_pass_144 rfl rfl ?_
        refine zg_RX5_97 148 X (w := zmI (zf_X5_turns (zmI1 (zmI1 (zmI1 (zmI1 v 0 0) 10 1) 9 (zmI v 9)) 8 (((zf_X5_forehand (zmI1 (zmI1 (zmI1 v 0 0) 10 1) 9 (zmI v 9))) + 2) - ((zf_X5_forehand (zmI1 (zmI1 (zmI1 v 0 0) 10 1) 9 (zmI v 9))) + 2) / 3 * 3)) 0 (((zf_X5_forehand (zmI1 (zmI1 (zmI1 v 0 0) 10 1) 9 (zmI v 9))) + 2) - ((zf_X5_forehand (zmI1 (zmI1 (zmI1 v 0 0) 10 1) 9 (zmI v 9))) + 2) / 3 * 3)) 3) rfl dX5_pass_145 rfl ?_
        exact ze_im (Wd := zM C a) (u := (zf_X5_turns (zmI1 (zmI1 (zmI1 (zmI1 v 0 0) 10 1) 9 (zmI v 9)) 8 (((zf_X5_forehand (zmI1 (zmI1 (zmI1 v 0 0) 10 1) 9 (zmI v 9))) + 2) - ((zf_X5_forehand (zmI1 (zmI1 (zmI1 v 0 0) 10 1) 9 (zmI v 9))) + 2) / 3 * 3)) 0 (((zf_X5_forehand (zmI1 (zmI1 (zmI1 v 0 0) 10 1) 9 (zmI v 9))) + 2) - ((zf_X5_forehand (zmI1 (zmI1 (zmI1 v 0 0) 10 1) 9 (zmI v 9))) + 2) / 3 * 3))) X Y hv dX5_pass_148
    · rw [if_pos c4] at hv
      refine zj_aload_n 57 X 0 dX5_pass_56 rfl rfl ?_
      refine zj_bipush 59 X (v := 6) dX5_pass_57 (by decide) rfl ?_
      refine zp_RX5_64 62 X (zD_M _ hD) dX5_pass_59 rfl ?_
      refine zj_aload_n 63 X 0 dX5_pass_62 rfl rfl ?_
      refine zc_vm 66 (Wd := zM C a) (zr_Vm (As := []) (rest := []) X (zc_X5_leads (l := l) (v := zmI1 (zmI1 v 0 0) 13 6)) zw_X5_114 zn_X5_leads (zcR_of rfl) zO_M (zD_M _ hD) hA rfl (Nat.le_of_ble_eq_true rfl) dX5_pass_63) (zD_M _ hD) hA rfl ?_
      refine zj_goto 144 X dX5_pass_66 (by decide) ?_
      refine zj_aload_n 145 X 0 dX5_pass_144 rfl rfl ?_
      refine zg_RX5_97 148 X (w := zmI (zf_X5_leads (zmI1 (zmI1 v 0 0) 13 6)) 3) rfl dX5_pass_145 rfl ?_
      exact ze_im (Wd := zM C a) (u := (zf_X5_leads (zmI1 (zmI1 v 0 0) 13 6))) X Y hv dX5_pass_148
  · rw [if_neg c1] at hv
    refine zj_aload_n 9 X 0 dX5_pass_8 rfl rfl ?_
    refine zg_RX5_94 12 X (w := zmI v 2) rfl dX5_pass_9 rfl ?_
    refine zj_iconst 13 X (v := 1) dX5_pass_12 (by decide) rfl ?_
    refine zj_icmp_ne 16 20 X dX5_pass_13 (by decide) rfl (fun c7 => ?_) (fun c7 => ?_)
    · rw [if_neg c7] at hv
      refine zj_iconst 21 X (v := 1) dX5_pass_20 (by decide) rfl ?_
      refine zc_im 24 (Wd := zM C a) (zr_Vm (As := [.int (1)]) (rest := []) X (zc_X5_holds (l := l) (p0 := 1) (v := v)) zw_X5_100 zn_X5_holds (zcR_of rfl) zO_M (zD_M _ hD) hA rfl (Nat.le_of_ble_eq_true rfl) dX5_pass_21) (zD_M _ hD) hA rfl ?_
      show zJ _ _ _ _ _ _ _ _ _ _ _ _ _ _ _ _ (zM C a (zmI1 v 0 1)) 24 [(0, .ref (a 0))] [.int (0)]
      refine zj_if_ne 27 29 X dX5_pass_24 (by decide) rfl (fun c8 => absurd c8 (by decide)) (fun _ => ?_)
      refine zj_iconst 28 X (v := 0) dX5_pass_27 (by decide) rfl ?_
      exact ze_im (Wd := zM C a) (u := zmI1 v 0 1) X Y hv dX5_pass_28
    · rw [if_pos c7] at hv
      refine zj_iconst 17 X (v := 0) dX5_pass_16 (by decide) rfl ?_
      refine zj_goto 21 X dX5_pass_17 (by decide) ?_
      refine zc_im 24 (Wd := zM C a) (zr_Vm (As := [.int (0)]) (rest := []) X (zc_X5_holds (l := l) (p0 := 0) (v := v)) zw_X5_100 zn_X5_holds (zcR_of rfl) zO_M (zD_M _ hD) hA rfl (Nat.le_of_ble_eq_true rfl) dX5_pass_21) (zD_M _ hD) hA rfl ?_
      show zJ _ _ _ _ _ _ _ _ _ _ _ _ _ _ _ _ (zM C a (zmI1 v 0 0)) 24 [(0, .ref (a 0))] [.int (1)]
      refine zj_if_ne 27 29 X dX5_pass_24 (by decide) rfl (fun _ => ?_) (fun c9 => absurd c9 (by decide))
      refine zj_aload_n 30 X 0 dX5_pass_29 rfl rfl ?_
      refine zg_RX5_94 33 X (w := zmI v 2) rfl dX5_pass_30 rfl ?_
      refine zj_if_ne 36 43 X dX5_pass_33 (by decide) rfl (fun _ => ?_) (fun c10 => absurd c10 c1)
      refine zj_aload_n 44 X 0 dX5_pass_43 rfl rfl ?_
      refine zg_RX5_87 47 X (w := zmI v 8) rfl dX5_pass_44 rfl ?_
      refine zj_istore_n 48 X (lv1 := [(0, .ref (a 0)), (1, .int (zmI v 8))]) [1, 0] dX5_pass_47 (by decide) rfl rfl ?_
      refine zj_aload_n 49 X 0 dX5_pass_48 rfl rfl ?_
      refine zg_RX5_77 52 X (w := zmI v 10) rfl dX5_pass_49 rfl ?_
      refine zj_iconst 53 X (v := 2) dX5_pass_52 (by decide) rfl ?_
      refine zj_icmp_ne 56 69 X dX5_pass_53 (by decide) rfl (fun c11 => ?_) (fun c11 => ?_)
      · rw [if_neg c11] at hv
        refine zj_aload_n 70 X 0 dX5_pass_69 rfl rfl ?_
        refine zg_RX5_77 73 X (w := zmI v 10) rfl dX5_pass_70 rfl ?_
        refine zj_if_ne 76 110 X dX5_pass_73 (by decide) rfl (fun c12 => ?_) (fun c12 => ?_)
        · rw [if_neg c12] at hv
          refine zj_aload_n 111 X 0 dX5_pass_110 rfl rfl ?_
          refine zg_RX5_58 114 X (w := zmI v 11) rfl dX5_pass_111 rfl ?_
          refine zj_if_le 117 125 X dX5_pass_114 (by decide) rfl (fun c13 => ?_) (fun c13 => ?_)
          · rw [if_pos c13] at hv
            refine zj_aload_n 126 X 0 dX5_pass_125 rfl rfl ?_
            refine zj_iconst 127 X (v := 2) dX5_pass_126 (by decide) rfl ?_
            refine zp_RX5_77 130 X (zD_M _ hD) dX5_pass_127 rfl ?_
            refine zj_aload_n 131 X 0 dX5_pass_130 rfl rfl ?_
            refine zj_iload_n 132 X 1 dX5_pass_131 rfl rfl ?_
            refine zp_RX5_87 135 X (zD_M _ hD) dX5_pass_132 rfl ?_
            refine zj_aload_n 136 X 0 dX5_pass_135 rfl rfl ?_
            refine zj_iconst 137 X (v := 0) dX5_pass_136 (by decide) rfl ?_
            refine zj_aload_n 138 X 0 dX5_pass_137 rfl rfl ?_
            refine zg_RX5_87 141 X (w := zmI v 8) rfl dX5_pass_138 rfl ?_
            refine zc_vm 144 (Wd := zM C a) (zr_Vm (As := [.int (0), .int (zmI v 8)]) (rest := []) X (zc_X5_turns (l := l) (p0 := 0) (p1 := zmI v 8) (v := zmI1 (zmI1 (zmI1 v 0 0) 10 2) 8 (zmI v 8))) zw_X5_90 zn_X5_turns (zcR_of rfl) zO_M (zD_M _ hD) hA rfl (Nat.le_of_ble_eq_true rfl) dX5_pass_141) (zD_M _ hD) hA rfl ?_
            refine zj_aload_n 145 X 0 dX5_pass_144 rfl rfl ?_
            refine zg_RX5_97 148 X (w := zmI (zf_X5_turns (zmI1 (zmI1 (zmI1 v 0 0) 10 2) 8 (zmI v 8)) 0 (zmI v 8)) 3) rfl dX5_pass_145 rfl ?_
            exact ze_im (Wd := zM C a) (u := (zf_X5_turns (zmI1 (zmI1 (zmI1 v 0 0) 10 2) 8 (zmI v 8)) 0 (zmI v 8))) X Y hv dX5_pass_148
          · rw [if_neg c13] at hv
            refine zj_aload_n 118 X 0 dX5_pass_117 rfl rfl ?_
            refine zj_iload_n 119 X 1 dX5_pass_118 rfl rfl ?_
            refine zc_vm 122 (Wd := zM C a) (zr_Vm (As := [.int (zmI v 8)]) (rest := []) X (zc_X5_declares (l := l) (p0 := zmI v 8) (v := zmI1 v 0 0)) zw_X5_111 zn_X5_declares (zcR_of rfl) zO_M (zD_M _ hD) hA rfl (Nat.le_of_ble_eq_true rfl) dX5_pass_119) (zD_M _ hD) hA rfl ?_
            refine zj_goto 144 X dX5_pass_122 (by decide) ?_
            refine zj_aload_n 145 X 0 dX5_pass_144 rfl rfl ?_
            refine zg_RX5_97 148 X (w := zmI (zf_X5_declares (zmI1 v 0 0) (zmI v 8)) 3) rfl dX5_pass_145 rfl ?_
            exact ze_im (Wd := zM C a) (u := (zf_X5_declares (zmI1 v 0 0) (zmI v 8))) X Y hv dX5_pass_148
        · rw [if_pos c12] at hv
          refine zj_aload_n 77 X 0 dX5_pass_76 rfl rfl ?_
          refine zj_iconst 78 X (v := 1) dX5_pass_77 (by decide) rfl ?_
          refine zp_RX5_77 81 X (zD_M _ hD) dX5_pass_78 rfl ?_
          refine zj_aload_n 82 X 0 dX5_pass_81 rfl rfl ?_
          refine zj_iload_n 83 X 1 dX5_pass_82 rfl rfl ?_
          refine zp_RX5_84 86 X (zD_M _ hD) dX5_pass_83 rfl ?_
          refine zj_aload_n 87 X 0 dX5_pass_86 rfl rfl ?_
          refine zj_aload_n 88 X 0 dX5_pass_87 rfl rfl ?_
          refine zc_i 91 (zr_V (As := []) (rest := [.ref (a 0)]) X (zc_X5_forehand (l := l) (v := zmI1 (zmI1 (zmI1 v 0 0) 10 1) 9 (zmI v 8))) zw_X5_80 zn_X5_forehand (zcR_of rfl) zO_M zsI rfl (Nat.le_of_ble_eq_true rfl) dX5_pass_88) rfl ?_
          refine zj_iconst 92 X (v := 2) dX5_pass_91 (by decide) rfl ?_
          refine zj_iadd 93 X dX5_pass_92 rfl ?_
          refine zj_iconst 94 X (v := 3) dX5_pass_93 (by decide) rfl ?_
          refine zj_irem 95 X dX5_pass_94 (by decide) rfl ?_
          refine zp_RX5_87 98 X (zD_M _ hD) dX5_pass_95 rfl ?_
          refine zj_aload_n 99 X 0 dX5_pass_98 rfl rfl ?_
          refine zj_iconst 100 X (v := 0) dX5_pass_99 (by decide) rfl ?_
          refine zj_aload_n 101 X 0 dX5_pass_100 rfl rfl ?_
          refine zg_RX5_87 104 X (w := ((zf_X5_forehand (zmI1 (zmI1 (zmI1 v 0 0) 10 1) 9 (zmI v 8))) + 2) - ((zf_X5_forehand (zmI1 (zmI1 (zmI1 v 0 0) 10 1) 9 (zmI v 8))) + 2) / 3 * 3) rfl dX5_pass_101 rfl ?_
          refine zc_vm 107 (Wd := zM C a) (zr_Vm (As := [.int (0), .int (((zf_X5_forehand (zmI1 (zmI1 (zmI1 v 0 0) 10 1) 9 (zmI v 8))) + 2) - ((zf_X5_forehand (zmI1 (zmI1 (zmI1 v 0 0) 10 1) 9 (zmI v 8))) + 2) / 3 * 3)]) (rest := []) X (zc_X5_turns (l := l) (p0 := 0) (p1 := ((zf_X5_forehand (zmI1 (zmI1 (zmI1 v 0 0) 10 1) 9 (zmI v 8))) + 2) - ((zf_X5_forehand (zmI1 (zmI1 (zmI1 v 0 0) 10 1) 9 (zmI v 8))) + 2) / 3 * 3) (v := zmI1 (zmI1 (zmI1 (zmI1 v 0 0) 10 1) 9 (zmI v 8)) 8 (((zf_X5_forehand (zmI1 (zmI1 (zmI1 v 0 0) 10 1) 9 (zmI v 8))) + 2) - ((zf_X5_forehand (zmI1 (zmI1 (zmI1 v 0 0) 10 1) 9 (zmI v 8))) + 2) / 3 * 3))) zw_X5_90 zn_X5_turns (zcR_of rfl) zO_M (zD_M _ hD) hA rfl (Nat.le_of_ble_eq_true rfl) dX5_pass_104) (zD_M _ hD) hA rfl ?_
          refine zj_goto 144 X dX5_pass_107 (by decide) ?_
          refine zj_aload_n 145 X 0 dX5_pass_144 rfl rfl ?_
          refine zg_RX5_97 148 X (w := zmI (zf_X5_turns (zmI1 (zmI1 (zmI1 (zmI1 v 0 0) 10 1) 9 (zmI v 8)) 8 (((zf_X5_forehand (zmI1 (zmI1 (zmI1 v 0 0) 10 1) 9 (zmI v 8))) + 2) - ((zf_X5_forehand (zmI1 (zmI1 (zmI1 v 0 0) 10 1) 9 (zmI v 8))) + 2) / 3 * 3)) 0 (((zf_X5_forehand (zmI1 (zmI1 (zmI1 v 0 0) 10 1) 9 (zmI v 8))) + 2) - ((zf_X5_forehand (zmI1 (zmI1 (zmI1 v 0 0) 10 1) 9 (zmI v 8))) + 2) / 3 * 3)) 3) rfl dX5_pass_145 rfl ?_
          exact ze_im (Wd := zM C a) (u := (zf_X5_turns (zmI1 (zmI1 (zmI1 (zmI1 v 0 0) 10 1) 9 (zmI v 8)) 8 (((zf_X5_forehand (zmI1 (zmI1 (zmI1 v 0 0) 10 1) 9 (zmI v 8))) + 2) - ((zf_X5_forehand (zmI1 (zmI1 (zmI1 v 0 0) 10 1) 9 (zmI v 8))) + 2) / 3 * 3)) 0 (((zf_X5_forehand (zmI1 (zmI1 (zmI1 v 0 0) 10 1) 9 (zmI v 8))) + 2) - ((zf_X5_forehand (zmI1 (zmI1 (zmI1 v 0 0) 10 1) 9 (zmI v 8))) + 2) / 3 * 3))) X Y hv dX5_pass_148
      · rw [if_pos c11] at hv
        refine zj_aload_n 57 X 0 dX5_pass_56 rfl rfl ?_
        refine zj_bipush 59 X (v := 6) dX5_pass_57 (by decide) rfl ?_
        refine zp_RX5_64 62 X (zD_M _ hD) dX5_pass_59 rfl ?_
        refine zj_aload_n 63 X 0 dX5_pass_62 rfl rfl ?_
        refine zc_vm 66 (Wd := zM C a) (zr_Vm (As := []) (rest := []) X (zc_X5_leads (l := l) (v := zmI1 (zmI1 v 0 0) 13 6)) zw_X5_114 zn_X5_leads (zcR_of rfl) zO_M (zD_M _ hD) hA rfl (Nat.le_of_ble_eq_true rfl) dX5_pass_63) (zD_M _ hD) hA rfl ?_
        refine zj_goto 144 X dX5_pass_66 (by decide) ?_
        refine zj_aload_n 145 X 0 dX5_pass_144 rfl rfl ?_
        refine zg_RX5_97 148 X (w := zmI (zf_X5_leads (zmI1 (zmI1 v 0 0) 13 6)) 3) rfl dX5_pass_145 rfl ?_
        exact ze_im (Wd := zM C a) (u := (zf_X5_leads (zmI1 (zmI1 v 0 0) 13 6))) X Y hv dX5_pass_148
def zl_X5_worthOf_lp (p0 : Int64) : Nat → Nat → Int32 → Int32
  | 0, i, x2 => x2
  | k + 1, i, x2 => zl_X5_worthOf_lp p0 k (i + 1) (x2 + (if (zf_X5_has p0 (nI i)) = 0 then (0 : Int32) else zf_X5_worth (nI i)))
def zf_X5_worthOf (p0 : Int64) : Int32 := zl_X5_worthOf_lp p0 32 0 0
abbrev zR_X5_worthOf : Room := { frames := 1, cells := 0, slots := 0, locals := 22 }
set_option maxHeartbeats 4000000 in
set_option maxRecDepth 100000 in
theorem zc_X5_worthOf {l : Launch} {D : va_G} {C : ClassId × ClassId} {p0 : Int64} : zk_Mp l yX5_worthOf cX5_worthOf 4 (some .int) zR_X5_worthOf [.long (p0)] [] D C (vp_Si (fun r => r = zf_X5_worthOf p0)) := by
  refine zk_mp (by decide) (Nat.le_of_ble_eq_true rfl) ?_
  intro p e s m below meth c X Y
  generalize hv : zf_X5_worthOf p0 = V
  unfold zf_X5_worthOf at hv
  show zJ _ _ _ _ _ _ _ _ _ _ _ _ _ _ _ _ _ 0 [(0, .long (p0))] []
  refine zj_iconst 1 X (v := 0) dX5_worthOf_0 (by decide) rfl ?_
  refine zj_istore_n 2 X (lv1 := [(0, .long (p0)), (2, .int (0))]) [1, 0] dX5_worthOf_1 (by decide) rfl rfl ?_
  refine zj_iconst 3 X (v := 0) dX5_worthOf_2 (by decide) rfl ?_
  refine zj_istore_n 4 X (lv1 := [(0, .long (p0)), (2, .int (0)), (3, .int (0))]) [1, 2, 0] dX5_worthOf_3 (by decide) rfl rfl ?_
  have L1 : ∀ (k i : Nat) (x2 : Int32), i + k = 32 → zl_X5_worthOf_lp p0 k i x2 = V → zJ p l e zR_X5_worthOf s m ([.long (p0)] : List Value).toArray below meth c 0 0 (MQ below (vp_Si (fun r => r = V)) ([.long (p0)] : List Value).toArray s 0 0 (fun _ => False)) D (zk_K0 s) 4 [] 4 [(0, .long (p0)), (2, .int (x2)), (3, .int (nI i))] [] := by
    intro k
    induction k with
    | zero =>
      intro i x2 h1 hv
      rw [zl_X5_worthOf_lp] at hv
      refine zj_iload_n 5 X 2 dX5_worthOf_4 rfl rfl ?_
      refine zj_bipush 7 X (v := 32) dX5_worthOf_5 (by decide) rfl ?_
      refine zj_icmp_ge 10 35 X dX5_worthOf_7 (by decide) rfl (fun _ => ?_) (fun c2 => absurd (zge0 (N := 32) (by rfl) (by omega)) c2)
      refine zj_iload_n 36 X 1 dX5_worthOf_35 rfl rfl ?_
      exact ze_i X Y hv dX5_worthOf_36
    | succ k ih =>
      intro i x2 h1 hv
      rw [zl_X5_worthOf_lp] at hv
      refine zj_iload_n 5 X 2 dX5_worthOf_4 rfl rfl ?_
      refine zj_bipush 7 X (v := 32) dX5_worthOf_5 (by decide) rfl ?_
      refine zj_icmp_ge 10 35 X dX5_worthOf_7 (by decide) rfl (fun c3 => absurd c3 (zge (N := 32) (by rfl) (by omega) (by decide))) (fun _ => ?_)
      refine zj_iload_n 11 X 1 dX5_worthOf_10 rfl rfl ?_
      refine zj_lload_n 12 X 0 dX5_worthOf_11 rfl rfl ?_
      refine zj_iload_n 13 X 2 dX5_worthOf_12 rfl rfl ?_
      refine zc_i 16 (zr_S (As := [.long (p0), .int (nI i)]) (rest := [.int (x2)]) X (zc_X5_has (l := l) (p0 := p0) (p1 := nI i)) zw_X5_120 zn_X5_has (zcR_of rfl) zs0 rfl (Nat.le_of_ble_eq_true rfl) dX5_worthOf_13) rfl ?_
      refine zj_join 27 [(0, .long (p0)), (2, .int (x2)), (3, .int (nI i))] [.int (if (zf_X5_has p0 (nI i)) = 0 then (0 : Int32) else zf_X5_worth (nI i)), .int (x2)] ?_ (fun J5 => ?_)
      · refine zj_iadd 28 X dX5_worthOf_27 rfl ?_
        refine zj_istore_n 29 X (lv1 := [(0, .long (p0)), (2, .int (x2 + (if (zf_X5_has p0 (nI i)) = 0 then (0 : Int32) else zf_X5_worth (nI i)))), (3, .int (nI i))]) [1, 0, 2] dX5_worthOf_28 (by decide) rfl rfl ?_
        refine zj_iinc 32 X (v := nI (i + 1)) (lv1 := [(0, .long (p0)), (2, .int (x2 + (if (zf_X5_has p0 (nI i)) = 0 then (0 : Int32) else zf_X5_worth (nI i)))), (3, .int (nI (i + 1)))]) 2 [1, 2, 0] dX5_worthOf_29 rfl (zinc _) (by decide) rfl rfl ?_
        refine zj_goto 4 X dX5_worthOf_32 (by decide) ?_
        exact ih (i + 1) (x2 + (if (zf_X5_has p0 (nI i)) = 0 then (0 : Int32) else zf_X5_worth (nI i))) (by omega)  hv
      · refine zj_if_eq 19 26 X dX5_worthOf_16 (by decide) rfl (fun c6 => ?_) (fun c6 => ?_)
        · refine zj_iconst 27 X (v := 0) dX5_worthOf_26 (by decide) rfl ?_
          simpa only [if_pos c6] using J5
        · refine zj_iload_n 20 X 2 dX5_worthOf_19 rfl rfl ?_
          refine zc_i 23 (zr_S (As := [.int (nI i)]) (rest := [.int (x2)]) X (zc_X5_worth (l := l) (p0 := nI i)) zw_X5_124 zn_X5_worth (zcR_of rfl) zs0 rfl (Nat.le_of_ble_eq_true rfl) dX5_worthOf_20) rfl ?_
          refine zj_goto 27 X dX5_worthOf_23 (by decide) ?_
          simpa only [if_neg c6] using J5
  exact L1 32 0 0 (by decide)  hv
def zl_X5_nextBid_lp (v : zN) (p0 : Int32) : Nat → Nat → Int32 × zN
  | 0, i => (nI i, zmI1 v 0 0)
  | k + 1, i => if (zf_X5_isBid (nI i)) = 0 then zl_X5_nextBid_lp v p0 k (i + 1) else (nI i, zmI1 v 0 0)
def zf_X5_nextBid (v : zN) (p0 : Int32) : Int32 × zN := if (zf_X5_in p0 0 263) = 0 then (0, zmI1 v 0 1) else zl_X5_nextBid_lp v p0 (263 - p0.toNatClampNeg) (p0.toNatClampNeg + 1)
abbrev zR_X5_nextBid : Room := { frames := 2, cells := 0, slots := 0, locals := 44 }
set_option maxHeartbeats 4000000 in
set_option maxRecDepth 100000 in
theorem zc_X5_nextBid {l : Launch} {D : va_G} {C : ClassId × ClassId} {a : Nat → Nat} {v : zN} {p0 : Int32} : zk_Mm l yX5_nextBid cX5_nextBid 3 (some .int) zR_X5_nextBid [.ref (a 0), .int (p0)] (zM C a v) D C (fun A => va_Qi (fun r u' => (r, u') = zf_X5_nextBid v p0) (fun u' t => va_P D vwCl (zM C a u') t.heap) A) := by
  refine zk_mm (by decide) (Nat.le_of_ble_eq_true rfl) ?_
  intro p e s m below meth c A X Y hD hA
  generalize hv : zf_X5_nextBid v p0 = V
  unfold zf_X5_nextBid at hv
  show zJ _ _ _ _ _ _ _ _ _ _ _ _ _ _ _ _ _ 0 [(0, .ref (a 0)), (1, .int (p0))] []
  refine zj_aload_n 1 X 0 dX5_nextBid_0 rfl rfl ?_
  refine zj_iload_n 2 X 1 dX5_nextBid_1 rfl rfl ?_
  refine zj_iconst 3 X (v := 0) dX5_nextBid_2 (by decide) rfl ?_
  refine zj_sipush 6 X (v := 263) dX5_nextBid_3 (by decide) rfl ?_
  refine zc_i 9 (zr_S (As := [.int (p0), .int (0), .int (263)]) (rest := [.ref (a 0)]) X (zc_X5_in (l := l) (p0 := p0) (p1 := 0) (p2 := 263)) zw_X5_104 zn_X5_in (zcR_of rfl) zs0 rfl (Nat.le_of_ble_eq_true rfl) dX5_nextBid_6) rfl ?_
  refine zj_if_eq 12 16 X dX5_nextBid_9 (by decide) rfl (fun c1 => ?_) (fun c1 => ?_)
  · rw [if_pos c1] at hv
    refine zj_iconst 17 X (v := 1) dX5_nextBid_16 (by decide) rfl ?_
    refine zc_im 20 (Wd := zM C a) (zr_Vm (As := [.int (1)]) (rest := []) X (zc_X5_holds (l := l) (p0 := 1) (v := v)) zw_X5_100 zn_X5_holds (zcR_of rfl) zO_M (zD_M _ hD) hA rfl (Nat.le_of_ble_eq_true rfl) dX5_nextBid_17) (zD_M _ hD) hA rfl ?_
    show zJ _ _ _ _ _ _ _ _ _ _ _ _ _ _ _ _ (zM C a (zmI1 v 0 1)) 20 [(0, .ref (a 0)), (1, .int (p0))] [.int (0)]
    refine zj_if_ne 23 25 X dX5_nextBid_20 (by decide) rfl (fun c2 => absurd c2 (by decide)) (fun _ => ?_)
    refine zj_iconst 24 X (v := 0) dX5_nextBid_23 (by decide) rfl ?_
    exact ze_im (Wd := zM C a) (u := zmI1 v 0 1) X Y hv dX5_nextBid_24
  · rw [if_neg c1] at hv
    refine zj_iconst 13 X (v := 0) dX5_nextBid_12 (by decide) rfl ?_
    refine zj_goto 17 X dX5_nextBid_13 (by decide) ?_
    refine zc_im 20 (Wd := zM C a) (zr_Vm (As := [.int (0)]) (rest := []) X (zc_X5_holds (l := l) (p0 := 0) (v := v)) zw_X5_100 zn_X5_holds (zcR_of rfl) zO_M (zD_M _ hD) hA rfl (Nat.le_of_ble_eq_true rfl) dX5_nextBid_17) (zD_M _ hD) hA rfl ?_
    show zJ _ _ _ _ _ _ _ _ _ _ _ _ _ _ _ _ (zM C a (zmI1 v 0 0)) 20 [(0, .ref (a 0)), (1, .int (p0))] [.int (1)]
    refine zj_if_ne 23 25 X dX5_nextBid_20 (by decide) rfl (fun _ => ?_) (fun c3 => absurd c3 (by decide))
    refine zj_iload_n 26 X 1 dX5_nextBid_25 rfl rfl ?_
    refine zj_iconst 27 X (v := 1) dX5_nextBid_26 (by decide) rfl ?_
    refine zj_iadd 28 X dX5_nextBid_27 rfl ?_
    refine zj_istore_n 29 X (lv1 := [(0, .ref (a 0)), (1, .int (p0)), (2, .int (p0 + 1))]) [1, 2, 0] dX5_nextBid_28 (by decide) rfl rfl ?_
    have L4 : ∀ (k i : Nat) , i + k = 264 → zl_X5_nextBid_lp v p0 k i = V → zJ p l e zR_X5_nextBid s m ([.ref (a 0), .int (p0)] : List Value).toArray below meth c 0 0 (MQ below (va_Qi (fun r u' => (r, u') = V) (fun u' t => va_P D vwCl (zM C a u') t.heap) A) ([.ref (a 0), .int (p0)] : List Value).toArray s 0 0 A) D (zk_Km A s) 3 (zM C a (zmI1 v 0 0)) 29 [(0, .ref (a 0)), (1, .int (p0)), (2, .int (nI i))] [] := by
      intro k
      induction k with
      | zero =>
        intro i h1 hv
        rw [zl_X5_nextBid_lp] at hv
        refine zj_iload_n 30 X 2 dX5_nextBid_29 rfl rfl ?_
        refine zc_i 33 (zr_S (As := [.int (nI i)]) (rest := []) X (zc_X5_isBid (l := l) (p0 := nI i)) zw_X5_108 zn_X5_isBid (zcR_of rfl) zs0 rfl (Nat.le_of_ble_eq_true rfl) dX5_nextBid_30) rfl ?_
        refine zj_if_ne 36 42 X dX5_nextBid_33 (by decide) rfl (fun _ => ?_) (fun c5 => absurd c5 (znb264 (by omega)))
        refine zj_iload_n 43 X 2 dX5_nextBid_42 rfl rfl ?_
        exact ze_im (Wd := zM C a) (u := zmI1 v 0 0) X Y hv dX5_nextBid_43
      | succ k ih =>
        intro i h1 hv
        rw [zl_X5_nextBid_lp] at hv
        refine zj_iload_n 30 X 2 dX5_nextBid_29 rfl rfl ?_
        refine zc_i 33 (zr_S (As := [.int (nI i)]) (rest := []) X (zc_X5_isBid (l := l) (p0 := nI i)) zw_X5_108 zn_X5_isBid (zcR_of rfl) zs0 rfl (Nat.le_of_ble_eq_true rfl) dX5_nextBid_30) rfl ?_
        refine zj_if_ne 36 42 X dX5_nextBid_33 (by decide) rfl (fun c6 => ?_) (fun c6 => ?_)
        · rw [if_neg c6] at hv
          refine zj_iload_n 43 X 2 dX5_nextBid_42 rfl rfl ?_
          exact ze_im (Wd := zM C a) (u := zmI1 v 0 0) X Y hv dX5_nextBid_43
        · rw [if_pos c6] at hv
          refine zj_iinc 39 X (v := nI (i + 1)) (lv1 := [(0, .ref (a 0)), (1, .int (p0)), (2, .int (nI (i + 1)))]) 2 [1, 2, 0] dX5_nextBid_36 rfl (zinc _) (by decide) rfl rfl ?_
          refine zj_goto 29 X dX5_nextBid_39 (by decide) ?_
          exact ih (i + 1)  (by omega)  hv
    rw [(zin263 c1).1]
    exact L4 (263 - p0.toNatClampNeg) (p0.toNatClampNeg + 1) (zin263 c1).2  hv
def zf_X5_takeSkat (v : zN) : Int64 × zN := if (zmI v 2) = 2 then (zmK v, (zf_X5_turns (zmsK (zmC1 (zmI1 v 0 0) ((zmI v 12).toNatClampNeg) ((zmC v ((zmI v 12).toNatClampNeg)) ||| (zmK v))) 0) 3 (zmI v 12))) else (0, zmI1 v 0 1)
abbrev zR_X5_takeSkat : Room := { frames := 1, cells := 0, slots := 0, locals := 22 }
set_option maxHeartbeats 4000000 in
set_option maxRecDepth 100000 in
theorem zc_X5_takeSkat {l : Launch} {D : va_G} {C : ClassId × ClassId} {a : Nat → Nat} {v : zN} (hE : zmI v 2 = 2 → vp_in (zmI v 12) 3) : zk_Mm l yX5_takeSkat cX5_takeSkat 3 (some .long) zR_X5_takeSkat [.ref (a 0)] (zM C a v) D C (fun A => va_Ql (fun r u' => (r, u') = zf_X5_takeSkat v) (fun u' t => va_P D vwCl (zM C a u') t.heap) A) := by
  refine zk_mm (by decide) (Nat.le_of_ble_eq_true rfl) ?_
  intro p e s m below meth c A X Y hD hA
  generalize hv : zf_X5_takeSkat v = V
  unfold zf_X5_takeSkat at hv
  show zJ _ _ _ _ _ _ _ _ _ _ _ _ _ _ _ _ _ 0 [(0, .ref (a 0))] []
  refine zj_aload_n 1 X 0 dX5_takeSkat_0 rfl rfl ?_
  refine zj_aload_n 2 X 0 dX5_takeSkat_1 rfl rfl ?_
  refine zg_RX5_94 5 X (w := zmI v 2) rfl dX5_takeSkat_2 rfl ?_
  refine zj_iconst 6 X (v := 2) dX5_takeSkat_5 (by decide) rfl ?_
  refine zj_icmp_ne 9 13 X dX5_takeSkat_6 (by decide) rfl (fun c1 => ?_) (fun c1 => ?_)
  · rw [if_neg c1] at hv
    refine zj_iconst 14 X (v := 1) dX5_takeSkat_13 (by decide) rfl ?_
    refine zc_im 17 (Wd := zM C a) (zr_Vm (As := [.int (1)]) (rest := []) X (zc_X5_holds (l := l) (p0 := 1) (v := v)) zw_X5_100 zn_X5_holds (zcR_of rfl) zO_M (zD_M _ hD) hA rfl (Nat.le_of_ble_eq_true rfl) dX5_takeSkat_14) (zD_M _ hD) hA rfl ?_
    show zJ _ _ _ _ _ _ _ _ _ _ _ _ _ _ _ _ (zM C a (zmI1 v 0 1)) 17 [(0, .ref (a 0))] [.int (0)]
    refine zj_if_ne 20 22 X dX5_takeSkat_17 (by decide) rfl (fun c2 => absurd c2 (by decide)) (fun _ => ?_)
    refine zj_lconst 21 X (v := 0) dX5_takeSkat_20 (by decide) rfl ?_
    exact ze_lm (Wd := zM C a) (u := zmI1 v 0 1) X Y hv dX5_takeSkat_21
  · rw [if_pos c1] at hv
    refine zj_iconst 10 X (v := 0) dX5_takeSkat_9 (by decide) rfl ?_
    refine zj_goto 14 X dX5_takeSkat_10 (by decide) ?_
    refine zc_im 17 (Wd := zM C a) (zr_Vm (As := [.int (0)]) (rest := []) X (zc_X5_holds (l := l) (p0 := 0) (v := v)) zw_X5_100 zn_X5_holds (zcR_of rfl) zO_M (zD_M _ hD) hA rfl (Nat.le_of_ble_eq_true rfl) dX5_takeSkat_14) (zD_M _ hD) hA rfl ?_
    show zJ _ _ _ _ _ _ _ _ _ _ _ _ _ _ _ _ (zM C a (zmI1 v 0 0)) 17 [(0, .ref (a 0))] [.int (1)]
    refine zj_if_ne 20 22 X dX5_takeSkat_17 (by decide) rfl (fun _ => ?_) (fun c3 => absurd c3 (by decide))
    refine zj_aload_n 23 X 0 dX5_takeSkat_22 rfl rfl ?_
    refine zg_RX5_13 26 X dX5_takeSkat_23 rfl ?_
    refine zj_aload_n 27 X 0 dX5_takeSkat_26 rfl rfl ?_
    refine zg_RX5_61 30 X (w := zmI v 12) rfl dX5_takeSkat_27 rfl ?_
    refine zj_dup2_11 31 X dX5_takeSkat_30 rfl rfl rfl ?_
    refine zl_M_hands 32 X (w := zmC v ((zmI v 12).toNatClampNeg)) rfl (hE c1) dX5_takeSkat_31 rfl ?_
    refine zj_aload_n 33 X 0 dX5_takeSkat_32 rfl rfl ?_
    refine zg_RX5_54 36 X (w := zmK v) rfl dX5_takeSkat_33 rfl ?_
    refine zj_lor 37 X dX5_takeSkat_36 rfl ?_
    refine zt_M_hands 38 X (zD_M _ hD) (hE c1) dX5_takeSkat_37 rfl ?_
    refine zj_aload_n 39 X 0 dX5_takeSkat_38 rfl rfl ?_
    refine zg_RX5_54 42 X (w := zmK v) rfl dX5_takeSkat_39 rfl ?_
    refine zj_lstore_n 43 X (lv1 := [(0, .ref (a 0)), (1, .long (zmK v))]) [1, 0] dX5_takeSkat_42 (by decide) rfl rfl ?_
    refine zj_aload_n 44 X 0 dX5_takeSkat_43 rfl rfl ?_
    refine zj_lconst 45 X (v := 0) dX5_takeSkat_44 (by decide) rfl ?_
    refine zp_RX5_54 48 X (zD_M _ hD) dX5_takeSkat_45 rfl ?_
    refine zj_aload_n 49 X 0 dX5_takeSkat_48 rfl rfl ?_
    refine zj_iconst 50 X (v := 3) dX5_takeSkat_49 (by decide) rfl ?_
    refine zj_aload_n 51 X 0 dX5_takeSkat_50 rfl rfl ?_
    refine zg_RX5_61 54 X (w := zmI v 12) rfl dX5_takeSkat_51 rfl ?_
    refine zc_vm 57 (Wd := zM C a) (zr_Vm (As := [.int (3), .int (zmI v 12)]) (rest := []) X (zc_X5_turns (l := l) (p0 := 3) (p1 := zmI v 12) (v := zmsK (zmC1 (zmI1 v 0 0) ((zmI v 12).toNatClampNeg) ((zmC v ((zmI v 12).toNatClampNeg)) ||| (zmK v))) 0)) zw_X5_90 zn_X5_turns (zcR_of rfl) zO_M (zD_M _ hD) hA rfl (Nat.le_of_ble_eq_true rfl) dX5_takeSkat_54) (zD_M _ hD) hA rfl ?_
    refine zj_lload_n 58 X 1 dX5_takeSkat_57 rfl rfl ?_
    exact ze_lm (Wd := zM C a) (u := (zf_X5_turns (zmsK (zmC1 (zmI1 v 0 0) ((zmI v 12).toNatClampNeg) ((zmC v ((zmI v 12).toNatClampNeg)) ||| (zmK v))) 0) 3 (zmI v 12))) X Y hv dX5_takeSkat_58
def zf_X5_putAway (v : zN) (p0 : Int32) (p1 : Int32) : Int32 × zN := if (if (zf_X5_in p0 0 31) = 0 then (0 : Int32) else if (zf_X5_in p1 0 31) = 0 then (0 : Int32) else 1) = 0 then (0, zmI1 v 0 1) else (if p0 = p1 then (0, zmI1 v 0 2) else (if (zmI v 2) = 3 then (if (zf_X5_has (zmC v ((zmI v 3).toNatClampNeg)) p0) = 0 then (0, zmI1 v 0 3) else (if (zf_X5_has (zmC v ((zmI v 3).toNatClampNeg)) p1) = 0 then (0, zmI1 v 0 3) else (zf_X5_worthOf (zmK (zf_X5_turns (zmC1 (zmsK (zmI1 v 0 0) ((1 <<< (p0.toInt64 &&& 63)) ||| (1 <<< (p1.toInt64 &&& 63)))) ((zmI v 3).toNatClampNeg) ((zmC v ((zmI v 3).toNatClampNeg)) &&& (((1 <<< (p0.toInt64 &&& 63)) ||| (1 <<< (p1.toInt64 &&& 63))) ^^^ (-1)))) 4 (zmI v 3))), (zf_X5_turns (zmC1 (zmsK (zmI1 v 0 0) ((1 <<< (p0.toInt64 &&& 63)) ||| (1 <<< (p1.toInt64 &&& 63)))) ((zmI v 3).toNatClampNeg) ((zmC v ((zmI v 3).toNatClampNeg)) &&& (((1 <<< (p0.toInt64 &&& 63)) ||| (1 <<< (p1.toInt64 &&& 63))) ^^^ (-1)))) 4 (zmI v 3))))) else (0, zmI1 v 0 3)))
abbrev zR_X5_putAway : Room := { frames := 2, cells := 0, slots := 0, locals := 45 }
set_option maxHeartbeats 4000000 in
set_option maxRecDepth 100000 in
theorem zc_X5_putAway {l : Launch} {D : va_G} {C : ClassId × ClassId} {a : Nat → Nat} {v : zN} {p0 : Int32} {p1 : Int32} (hT : vp_in (zmI v 3) 3) : zk_Mm l yX5_putAway cX5_putAway 4 (some .int) zR_X5_putAway [.ref (a 0), .int (p0), .int (p1)] (zM C a v) D C (fun A => va_Qi (fun r u' => (r, u') = zf_X5_putAway v p0 p1) (fun u' t => va_P D vwCl (zM C a u') t.heap) A) := by
  refine zk_mm (by decide) (Nat.le_of_ble_eq_true rfl) ?_
  intro p e s m below meth c A X Y hD hA
  generalize hv : zf_X5_putAway v p0 p1 = V
  unfold zf_X5_putAway at hv
  show zJ _ _ _ _ _ _ _ _ _ _ _ _ _ _ _ _ _ 0 [(0, .ref (a 0)), (1, .int (p0)), (2, .int (p1))] []
  refine zj_iload_n 1 X 1 dX5_putAway_0 rfl rfl ?_
  refine zj_iconst 2 X (v := 0) dX5_putAway_1 (by decide) rfl ?_
  refine zj_bipush 4 X (v := 31) dX5_putAway_2 (by decide) rfl ?_
  refine zc_i 7 (zr_S (As := [.int (p0), .int (0), .int (31)]) (rest := []) X (zc_X5_in (l := l) (p0 := p0) (p1 := 0) (p2 := 31)) zw_X5_104 zn_X5_in (zcR_of rfl) zs0 rfl (Nat.le_of_ble_eq_true rfl) dX5_putAway_4) rfl ?_
  refine zj_join 25 [(0, .ref (a 0)), (1, .int (p0)), (2, .int (p1))] [.int (if (zf_X5_in p0 0 31) = 0 then (0 : Int32) else if (zf_X5_in p1 0 31) = 0 then (0 : Int32) else 1)] ?_ (fun J3 => ?_)
  · refine zj_istore_n 26 X (lv1 := [(0, .ref (a 0)), (1, .int (p0)), (2, .int (p1)), (3, .int (if (zf_X5_in p0 0 31) = 0 then (0 : Int32) else if (zf_X5_in p1 0 31) = 0 then (0 : Int32) else 1))]) [1, 2, 3, 0] dX5_putAway_25 (by decide) rfl rfl ?_
    refine zj_aload_n 27 X 0 dX5_putAway_26 rfl rfl ?_
    refine zj_iload_n 28 X 3 dX5_putAway_27 rfl rfl ?_
    refine zj_if_ne 31 35 X dX5_putAway_28 (by decide) rfl (fun c4 => ?_) (fun c4 => ?_)
    · rw [if_neg c4] at hv
      refine zj_iload_n 36 X 1 dX5_putAway_35 rfl rfl ?_
      refine zj_iload_n 37 X 2 dX5_putAway_36 rfl rfl ?_
      refine zj_icmp_ne 40 44 X dX5_putAway_37 (by decide) rfl (fun c5 => ?_) (fun c5 => ?_)
      · rw [if_neg c5] at hv
        refine zj_aload_n 45 X 0 dX5_putAway_44 rfl rfl ?_
        refine zg_RX5_94 48 X (w := zmI v 2) rfl dX5_putAway_45 rfl ?_
        refine zj_iconst 49 X (v := 3) dX5_putAway_48 (by decide) rfl ?_
        refine zj_icmp_ne 52 84 X dX5_putAway_49 (by decide) rfl (fun c6 => ?_) (fun c6 => ?_)
        · rw [if_neg c6] at hv
          refine zj_iconst 85 X (v := 3) dX5_putAway_84 (by decide) rfl ?_
          refine zj_goto 89 X dX5_putAway_85 (by decide) ?_
          refine zc_im 92 (Wd := zM C a) (zr_Vm (As := [.int (3)]) (rest := []) X (zc_X5_holds (l := l) (p0 := 3) (v := v)) zw_X5_100 zn_X5_holds (zcR_of rfl) zO_M (zD_M _ hD) hA rfl (Nat.le_of_ble_eq_true rfl) dX5_putAway_89) (zD_M _ hD) hA rfl ?_
          show zJ _ _ _ _ _ _ _ _ _ _ _ _ _ _ _ _ (zM C a (zmI1 v 0 3)) 92 [(0, .ref (a 0)), (1, .int (p0)), (2, .int (p1)), (3, .int (if (zf_X5_in p0 0 31) = 0 then (0 : Int32) else if (zf_X5_in p1 0 31) = 0 then (0 : Int32) else 1))] [.int (0)]
          refine zj_if_ne 95 97 X dX5_putAway_92 (by decide) rfl (fun c7 => absurd c7 (by decide)) (fun _ => ?_)
          refine zj_iconst 96 X (v := 0) dX5_putAway_95 (by decide) rfl ?_
          exact ze_im (Wd := zM C a) (u := zmI1 v 0 3) X Y hv dX5_putAway_96
        · rw [if_pos c6] at hv
          refine zj_aload_n 53 X 0 dX5_putAway_52 rfl rfl ?_
          refine zg_RX5_13 56 X dX5_putAway_53 rfl ?_
          refine zj_aload_n 57 X 0 dX5_putAway_56 rfl rfl ?_
          refine zg_RX5_97 60 X (w := zmI v 3) rfl dX5_putAway_57 rfl ?_
          refine zl_M_hands 61 X (w := zmC v ((zmI v 3).toNatClampNeg)) rfl hT dX5_putAway_60 rfl ?_
          refine zj_iload_n 62 X 1 dX5_putAway_61 rfl rfl ?_
          refine zc_i 65 (zr_S (As := [.long (zmC v ((zmI v 3).toNatClampNeg)), .int (p0)]) (rest := [.ref (a 0)]) X (zc_X5_has (l := l) (p0 := zmC v ((zmI v 3).toNatClampNeg)) (p1 := p0)) zw_X5_120 zn_X5_has (zcR_of rfl) zs0 rfl (Nat.le_of_ble_eq_true rfl) dX5_putAway_62) rfl ?_
          refine zj_if_eq 68 84 X dX5_putAway_65 (by decide) rfl (fun c8 => ?_) (fun c8 => ?_)
          · rw [if_pos c8] at hv
            refine zj_iconst 85 X (v := 3) dX5_putAway_84 (by decide) rfl ?_
            refine zj_goto 89 X dX5_putAway_85 (by decide) ?_
            refine zc_im 92 (Wd := zM C a) (zr_Vm (As := [.int (3)]) (rest := []) X (zc_X5_holds (l := l) (p0 := 3) (v := v)) zw_X5_100 zn_X5_holds (zcR_of rfl) zO_M (zD_M _ hD) hA rfl (Nat.le_of_ble_eq_true rfl) dX5_putAway_89) (zD_M _ hD) hA rfl ?_
            show zJ _ _ _ _ _ _ _ _ _ _ _ _ _ _ _ _ (zM C a (zmI1 v 0 3)) 92 [(0, .ref (a 0)), (1, .int (p0)), (2, .int (p1)), (3, .int (if (zf_X5_in p0 0 31) = 0 then (0 : Int32) else if (zf_X5_in p1 0 31) = 0 then (0 : Int32) else 1))] [.int (0)]
            refine zj_if_ne 95 97 X dX5_putAway_92 (by decide) rfl (fun c9 => absurd c9 (by decide)) (fun _ => ?_)
            refine zj_iconst 96 X (v := 0) dX5_putAway_95 (by decide) rfl ?_
            exact ze_im (Wd := zM C a) (u := zmI1 v 0 3) X Y hv dX5_putAway_96
          · rw [if_neg c8] at hv
            refine zj_aload_n 69 X 0 dX5_putAway_68 rfl rfl ?_
            refine zg_RX5_13 72 X dX5_putAway_69 rfl ?_
            refine zj_aload_n 73 X 0 dX5_putAway_72 rfl rfl ?_
            refine zg_RX5_97 76 X (w := zmI v 3) rfl dX5_putAway_73 rfl ?_
            refine zl_M_hands 77 X (w := zmC v ((zmI v 3).toNatClampNeg)) rfl hT dX5_putAway_76 rfl ?_
            refine zj_iload_n 78 X 2 dX5_putAway_77 rfl rfl ?_
            refine zc_i 81 (zr_S (As := [.long (zmC v ((zmI v 3).toNatClampNeg)), .int (p1)]) (rest := [.ref (a 0)]) X (zc_X5_has (l := l) (p0 := zmC v ((zmI v 3).toNatClampNeg)) (p1 := p1)) zw_X5_120 zn_X5_has (zcR_of rfl) zs0 rfl (Nat.le_of_ble_eq_true rfl) dX5_putAway_78) rfl ?_
            refine zj_if_ne 84 88 X dX5_putAway_81 (by decide) rfl (fun c10 => ?_) (fun c10 => ?_)
            · rw [if_neg c10] at hv
              refine zj_iconst 89 X (v := 0) dX5_putAway_88 (by decide) rfl ?_
              refine zc_im 92 (Wd := zM C a) (zr_Vm (As := [.int (0)]) (rest := []) X (zc_X5_holds (l := l) (p0 := 0) (v := v)) zw_X5_100 zn_X5_holds (zcR_of rfl) zO_M (zD_M _ hD) hA rfl (Nat.le_of_ble_eq_true rfl) dX5_putAway_89) (zD_M _ hD) hA rfl ?_
              show zJ _ _ _ _ _ _ _ _ _ _ _ _ _ _ _ _ (zM C a (zmI1 v 0 0)) 92 [(0, .ref (a 0)), (1, .int (p0)), (2, .int (p1)), (3, .int (if (zf_X5_in p0 0 31) = 0 then (0 : Int32) else if (zf_X5_in p1 0 31) = 0 then (0 : Int32) else 1))] [.int (1)]
              refine zj_if_ne 95 97 X dX5_putAway_92 (by decide) rfl (fun _ => ?_) (fun c11 => absurd c11 (by decide))
              refine zj_aload_n 98 X 0 dX5_putAway_97 rfl rfl ?_
              refine zj_lconst 99 X (v := 1) dX5_putAway_98 (by decide) rfl ?_
              refine zj_iload_n 100 X 1 dX5_putAway_99 rfl rfl ?_
              refine zj_lshl 101 X dX5_putAway_100 rfl rfl ?_
              refine zj_lconst 102 X (v := 1) dX5_putAway_101 (by decide) rfl ?_
              refine zj_iload_n 103 X 2 dX5_putAway_102 rfl rfl ?_
              refine zj_lshl 104 X dX5_putAway_103 rfl rfl ?_
              refine zj_lor 105 X dX5_putAway_104 rfl ?_
              refine zp_RX5_54 108 X (zD_M _ hD) dX5_putAway_105 rfl ?_
              refine zj_aload_n 109 X 0 dX5_putAway_108 rfl rfl ?_
              refine zg_RX5_13 112 X dX5_putAway_109 rfl ?_
              refine zj_aload_n 113 X 0 dX5_putAway_112 rfl rfl ?_
              refine zg_RX5_97 116 X (w := zmI v 3) rfl dX5_putAway_113 rfl ?_
              refine zj_dup2_11 117 X dX5_putAway_116 rfl rfl rfl ?_
              refine zl_M_hands 118 X (w := zmC v ((zmI v 3).toNatClampNeg)) rfl hT dX5_putAway_117 rfl ?_
              refine zj_aload_n 119 X 0 dX5_putAway_118 rfl rfl ?_
              refine zg_RX5_54 122 X (w := (1 <<< (p0.toInt64 &&& 63)) ||| (1 <<< (p1.toInt64 &&& 63))) rfl dX5_putAway_119 rfl ?_
              refine zj_ldc2 125 X (v := (-1)) (zG_t 763 (by decide +kernel) rfl) dX5_putAway_122 rfl ?_
              refine zj_lxor 126 X dX5_putAway_125 rfl ?_
              refine zj_land 127 X dX5_putAway_126 rfl ?_
              refine zt_M_hands 128 X (zD_M _ hD) hT dX5_putAway_127 rfl ?_
              refine zj_aload_n 129 X 0 dX5_putAway_128 rfl rfl ?_
              refine zj_iconst 130 X (v := 4) dX5_putAway_129 (by decide) rfl ?_
              refine zj_aload_n 131 X 0 dX5_putAway_130 rfl rfl ?_
              refine zg_RX5_97 134 X (w := zmI v 3) rfl dX5_putAway_131 rfl ?_
              refine zc_vm 137 (Wd := zM C a) (zr_Vm (As := [.int (4), .int (zmI v 3)]) (rest := []) X (zc_X5_turns (l := l) (p0 := 4) (p1 := zmI v 3) (v := zmC1 (zmsK (zmI1 v 0 0) ((1 <<< (p0.toInt64 &&& 63)) ||| (1 <<< (p1.toInt64 &&& 63)))) ((zmI v 3).toNatClampNeg) ((zmC v ((zmI v 3).toNatClampNeg)) &&& (((1 <<< (p0.toInt64 &&& 63)) ||| (1 <<< (p1.toInt64 &&& 63))) ^^^ (-1))))) zw_X5_90 zn_X5_turns (zcR_of rfl) zO_M (zD_M _ hD) hA rfl (Nat.le_of_ble_eq_true rfl) dX5_putAway_134) (zD_M _ hD) hA rfl ?_
              refine zj_aload_n 138 X 0 dX5_putAway_137 rfl rfl ?_
              refine zg_RX5_54 141 X (w := zmK (zf_X5_turns (zmC1 (zmsK (zmI1 v 0 0) ((1 <<< (p0.toInt64 &&& 63)) ||| (1 <<< (p1.toInt64 &&& 63)))) ((zmI v 3).toNatClampNeg) ((zmC v ((zmI v 3).toNatClampNeg)) &&& (((1 <<< (p0.toInt64 &&& 63)) ||| (1 <<< (p1.toInt64 &&& 63))) ^^^ (-1)))) 4 (zmI v 3))) rfl dX5_putAway_138 rfl ?_
              refine zc_i 144 (zr_S (As := [.long (zmK (zf_X5_turns (zmC1 (zmsK (zmI1 v 0 0) ((1 <<< (p0.toInt64 &&& 63)) ||| (1 <<< (p1.toInt64 &&& 63)))) ((zmI v 3).toNatClampNeg) ((zmC v ((zmI v 3).toNatClampNeg)) &&& (((1 <<< (p0.toInt64 &&& 63)) ||| (1 <<< (p1.toInt64 &&& 63))) ^^^ (-1)))) 4 (zmI v 3)))]) (rest := []) X (zc_X5_worthOf (l := l) (p0 := zmK (zf_X5_turns (zmC1 (zmsK (zmI1 v 0 0) ((1 <<< (p0.toInt64 &&& 63)) ||| (1 <<< (p1.toInt64 &&& 63)))) ((zmI v 3).toNatClampNeg) ((zmC v ((zmI v 3).toNatClampNeg)) &&& (((1 <<< (p0.toInt64 &&& 63)) ||| (1 <<< (p1.toInt64 &&& 63))) ^^^ (-1)))) 4 (zmI v 3)))) zw_X5_130 zn_X5_worthOf (zcR_of rfl) zs0 rfl (Nat.le_of_ble_eq_true rfl) dX5_putAway_141) rfl ?_
              exact ze_im (Wd := zM C a) (u := (zf_X5_turns (zmC1 (zmsK (zmI1 v 0 0) ((1 <<< (p0.toInt64 &&& 63)) ||| (1 <<< (p1.toInt64 &&& 63)))) ((zmI v 3).toNatClampNeg) ((zmC v ((zmI v 3).toNatClampNeg)) &&& (((1 <<< (p0.toInt64 &&& 63)) ||| (1 <<< (p1.toInt64 &&& 63))) ^^^ (-1)))) 4 (zmI v 3))) X Y hv dX5_putAway_144
            · rw [if_pos c10] at hv
              refine zj_iconst 85 X (v := 3) dX5_putAway_84 (by decide) rfl ?_
              refine zj_goto 89 X dX5_putAway_85 (by decide) ?_
              refine zc_im 92 (Wd := zM C a) (zr_Vm (As := [.int (3)]) (rest := []) X (zc_X5_holds (l := l) (p0 := 3) (v := v)) zw_X5_100 zn_X5_holds (zcR_of rfl) zO_M (zD_M _ hD) hA rfl (Nat.le_of_ble_eq_true rfl) dX5_putAway_89) (zD_M _ hD) hA rfl ?_
              show zJ _ _ _ _ _ _ _ _ _ _ _ _ _ _ _ _ (zM C a (zmI1 v 0 3)) 92 [(0, .ref (a 0)), (1, .int (p0)), (2, .int (p1)), (3, .int (if (zf_X5_in p0 0 31) = 0 then (0 : Int32) else if (zf_X5_in p1 0 31) = 0 then (0 : Int32) else 1))] [.int (0)]
              refine zj_if_ne 95 97 X dX5_putAway_92 (by decide) rfl (fun c12 => absurd c12 (by decide)) (fun _ => ?_)
              refine zj_iconst 96 X (v := 0) dX5_putAway_95 (by decide) rfl ?_
              exact ze_im (Wd := zM C a) (u := zmI1 v 0 3) X Y hv dX5_putAway_96
      · rw [if_pos c5] at hv
        refine zj_iconst 41 X (v := 2) dX5_putAway_40 (by decide) rfl ?_
        refine zj_goto 89 X dX5_putAway_41 (by decide) ?_
        refine zc_im 92 (Wd := zM C a) (zr_Vm (As := [.int (2)]) (rest := []) X (zc_X5_holds (l := l) (p0 := 2) (v := v)) zw_X5_100 zn_X5_holds (zcR_of rfl) zO_M (zD_M _ hD) hA rfl (Nat.le_of_ble_eq_true rfl) dX5_putAway_89) (zD_M _ hD) hA rfl ?_
        show zJ _ _ _ _ _ _ _ _ _ _ _ _ _ _ _ _ (zM C a (zmI1 v 0 2)) 92 [(0, .ref (a 0)), (1, .int (p0)), (2, .int (p1)), (3, .int (if (zf_X5_in p0 0 31) = 0 then (0 : Int32) else if (zf_X5_in p1 0 31) = 0 then (0 : Int32) else 1))] [.int (0)]
        refine zj_if_ne 95 97 X dX5_putAway_92 (by decide) rfl (fun c13 => absurd c13 (by decide)) (fun _ => ?_)
        refine zj_iconst 96 X (v := 0) dX5_putAway_95 (by decide) rfl ?_
        exact ze_im (Wd := zM C a) (u := zmI1 v 0 2) X Y hv dX5_putAway_96
    · rw [if_pos c4] at hv
      refine zj_iconst 32 X (v := 1) dX5_putAway_31 (by decide) rfl ?_
      refine zj_goto 89 X dX5_putAway_32 (by decide) ?_
      refine zc_im 92 (Wd := zM C a) (zr_Vm (As := [.int (1)]) (rest := []) X (zc_X5_holds (l := l) (p0 := 1) (v := v)) zw_X5_100 zn_X5_holds (zcR_of rfl) zO_M (zD_M _ hD) hA rfl (Nat.le_of_ble_eq_true rfl) dX5_putAway_89) (zD_M _ hD) hA rfl ?_
      show zJ _ _ _ _ _ _ _ _ _ _ _ _ _ _ _ _ (zM C a (zmI1 v 0 1)) 92 [(0, .ref (a 0)), (1, .int (p0)), (2, .int (p1)), (3, .int (if (zf_X5_in p0 0 31) = 0 then (0 : Int32) else if (zf_X5_in p1 0 31) = 0 then (0 : Int32) else 1))] [.int (0)]
      refine zj_if_ne 95 97 X dX5_putAway_92 (by decide) rfl (fun c14 => absurd c14 (by decide)) (fun _ => ?_)
      refine zj_iconst 96 X (v := 0) dX5_putAway_95 (by decide) rfl ?_
      exact ze_im (Wd := zM C a) (u := zmI1 v 0 1) X Y hv dX5_putAway_96
  · refine zj_if_eq 10 24 X dX5_putAway_7 (by decide) rfl (fun c15 => ?_) (fun c15 => ?_)
    · refine zj_iconst 25 X (v := 0) dX5_putAway_24 (by decide) rfl ?_
      simpa only [if_pos c15] using J3
    · refine zj_iload_n 11 X 2 dX5_putAway_10 rfl rfl ?_
      refine zj_iconst 12 X (v := 0) dX5_putAway_11 (by decide) rfl ?_
      refine zj_bipush 14 X (v := 31) dX5_putAway_12 (by decide) rfl ?_
      refine zc_i 17 (zr_S (As := [.int (p1), .int (0), .int (31)]) (rest := []) X (zc_X5_in (l := l) (p0 := p1) (p1 := 0) (p2 := 31)) zw_X5_104 zn_X5_in (zcR_of rfl) zs0 rfl (Nat.le_of_ble_eq_true rfl) dX5_putAway_14) rfl ?_
      refine zj_if_eq 20 24 X dX5_putAway_17 (by decide) rfl (fun c16 => ?_) (fun c16 => ?_)
      · refine zj_iconst 25 X (v := 0) dX5_putAway_24 (by decide) rfl ?_
        simpa only [if_neg c15, if_pos c16] using J3
      · refine zj_iconst 21 X (v := 1) dX5_putAway_20 (by decide) rfl ?_
        refine zj_goto 25 X dX5_putAway_21 (by decide) ?_
        simpa only [if_neg c15, if_neg c16] using J3
def zf_X5_isExtra (v : zN) (p0 : Int32) (p1 : Int32) : Int32 := if p0 = 5 then (if p1 = 0 then 1 else (if p1 = 3 then 1 else 0)) else (if p1 = 0 then 1 else (if (zmI v 2) = 2 then 1 else 0))
abbrev zR_X5_isExtra : Room := { frames := 0, cells := 0, slots := 0, locals := 0 }
set_option maxHeartbeats 4000000 in
set_option maxRecDepth 100000 in
theorem zc_X5_isExtra {l : Launch} {D : va_G} {C : ClassId × ClassId} {a : Nat → Nat} {v : zN} {p0 : Int32} {p1 : Int32} : zk_Mp l yX5_isExtra cX5_isExtra 3 (some .boolean) zR_X5_isExtra [.ref (a 0), .int (p0), .int (p1)] (zM C a v) D C (vp_Si (fun r => r = zf_X5_isExtra v p0 p1)) := by
  refine zk_mp (by decide) (Nat.le_of_ble_eq_true rfl) ?_
  intro p e s m below meth c X Y
  generalize hv : zf_X5_isExtra v p0 p1 = V
  unfold zf_X5_isExtra at hv
  show zJ _ _ _ _ _ _ _ _ _ _ _ _ _ _ _ _ _ 0 [(0, .ref (a 0)), (1, .int (p0)), (2, .int (p1))] []
  refine zj_iload_n 1 X 1 dX5_isExtra_0 rfl rfl ?_
  refine zj_iconst 2 X (v := 5) dX5_isExtra_1 (by decide) rfl ?_
  refine zj_icmp_ne 5 22 X dX5_isExtra_2 (by decide) rfl (fun c1 => ?_) (fun c1 => ?_)
  · rw [if_neg c1] at hv
    refine zj_iload_n 23 X 2 dX5_isExtra_22 rfl rfl ?_
    refine zj_if_eq 26 34 X dX5_isExtra_23 (by decide) rfl (fun c2 => ?_) (fun c2 => ?_)
    · rw [if_pos c2] at hv
      refine zj_iconst 35 X (v := 1) dX5_isExtra_34 (by decide) rfl ?_
      refine zj_goto 39 X dX5_isExtra_35 (by decide) ?_
      exact ze_z X Y (by decide) hv dX5_isExtra_39
    · rw [if_neg c2] at hv
      refine zj_aload_n 27 X 0 dX5_isExtra_26 rfl rfl ?_
      refine zg_RX5_94 30 X (w := zmI v 2) rfl dX5_isExtra_27 rfl ?_
      refine zj_iconst 31 X (v := 2) dX5_isExtra_30 (by decide) rfl ?_
      refine zj_icmp_ne 34 38 X dX5_isExtra_31 (by decide) rfl (fun c3 => ?_) (fun c3 => ?_)
      · rw [if_neg c3] at hv
        refine zj_iconst 39 X (v := 0) dX5_isExtra_38 (by decide) rfl ?_
        exact ze_z X Y (by decide) hv dX5_isExtra_39
      · rw [if_pos c3] at hv
        refine zj_iconst 35 X (v := 1) dX5_isExtra_34 (by decide) rfl ?_
        refine zj_goto 39 X dX5_isExtra_35 (by decide) ?_
        exact ze_z X Y (by decide) hv dX5_isExtra_39
  · rw [if_pos c1] at hv
    refine zj_iload_n 6 X 2 dX5_isExtra_5 rfl rfl ?_
    refine zj_if_eq 9 14 X dX5_isExtra_6 (by decide) rfl (fun c4 => ?_) (fun c4 => ?_)
    · rw [if_pos c4] at hv
      refine zj_iconst 15 X (v := 1) dX5_isExtra_14 (by decide) rfl ?_
      refine zj_goto 39 X dX5_isExtra_15 (by decide) ?_
      exact ze_z X Y (by decide) hv dX5_isExtra_39
    · rw [if_neg c4] at hv
      refine zj_iload_n 10 X 2 dX5_isExtra_9 rfl rfl ?_
      refine zj_iconst 11 X (v := 3) dX5_isExtra_10 (by decide) rfl ?_
      refine zj_icmp_ne 14 18 X dX5_isExtra_11 (by decide) rfl (fun c5 => ?_) (fun c5 => ?_)
      · rw [if_neg c5] at hv
        refine zj_iconst 19 X (v := 0) dX5_isExtra_18 (by decide) rfl ?_
        refine zj_goto 39 X dX5_isExtra_19 (by decide) ?_
        exact ze_z X Y (by decide) hv dX5_isExtra_39
      · rw [if_pos c5] at hv
        refine zj_iconst 15 X (v := 1) dX5_isExtra_14 (by decide) rfl ?_
        refine zj_goto 39 X dX5_isExtra_15 (by decide) ?_
        exact ze_z X Y (by decide) hv dX5_isExtra_39
def zf_X5_announce (v : zN) (p0 : Int32) (p1 : Int32) : Int32 × zN := if (zf_X5_in p0 0 5) = 0 then (if (zmI v 2) = 2 then (0, zmI1 v 0 1) else (if (zmI v 2) = 4 then (0, zmI1 v 0 1) else (0, zmI1 v 0 1))) else (if (zf_X5_in p1 0 3) = 0 then (if (zmI v 2) = 2 then (0, zmI1 v 0 1) else (if (zmI v 2) = 4 then (0, zmI1 v 0 1) else (0, zmI1 v 0 1))) else (if (zmI v 2) = 2 then (if (zf_X5_isExtra v p0 p1) = 0 then (0, zmI1 v 0 2) else (zmI (zf_X5_leads (zmP1 (zmI1 (zmI1 (zmI1 (zmI1 v 0 0) 13 p0) 14 p1) 15 1) ((zmI v 12).toNatClampNeg) ((zmP v ((zmI v 12).toNatClampNeg)) + (zf_X5_worthOf (zmK v))))) 3, (zf_X5_leads (zmP1 (zmI1 (zmI1 (zmI1 (zmI1 v 0 0) 13 p0) 14 p1) 15 1) ((zmI v 12).toNatClampNeg) ((zmP v ((zmI v 12).toNatClampNeg)) + (zf_X5_worthOf (zmK v))))))) else (if (zmI v 2) = 4 then (if (zf_X5_isExtra v p0 p1) = 0 then (0, zmI1 v 0 2) else (zmI (zf_X5_leads (zmP1 (zmI1 (zmI1 (zmI1 (zmI1 v 0 0) 13 p0) 14 p1) 15 0) ((zmI v 12).toNatClampNeg) ((zmP v ((zmI v 12).toNatClampNeg)) + (zf_X5_worthOf (zmK v))))) 3, (zf_X5_leads (zmP1 (zmI1 (zmI1 (zmI1 (zmI1 v 0 0) 13 p0) 14 p1) 15 0) ((zmI v 12).toNatClampNeg) ((zmP v ((zmI v 12).toNatClampNeg)) + (zf_X5_worthOf (zmK v))))))) else (0, zmI1 v 0 2))))
abbrev zR_X5_announce : Room := { frames := 2, cells := 0, slots := 0, locals := 45 }
set_option maxHeartbeats 4000000 in
set_option maxRecDepth 100000 in
theorem zc_X5_announce {l : Launch} {D : va_G} {C : ClassId × ClassId} {a : Nat → Nat} {v : zN} {p0 : Int32} {p1 : Int32} (hE : zmI v 2 = 2 ∨ zmI v 2 = 4 → vp_in (zmI v 12) 3) : zk_Mm l yX5_announce cX5_announce 5 (some .int) zR_X5_announce [.ref (a 0), .int (p0), .int (p1)] (zM C a v) D C (fun A => va_Qi (fun r u' => (r, u') = zf_X5_announce v p0 p1) (fun u' t => va_P D vwCl (zM C a u') t.heap) A) := by
  refine zk_mm (by decide) (Nat.le_of_ble_eq_true rfl) ?_
  intro p e s m below meth c A X Y hD hA
  generalize hv : zf_X5_announce v p0 p1 = V
  unfold zf_X5_announce at hv
  show zJ _ _ _ _ _ _ _ _ _ _ _ _ _ _ _ _ _ 0 [(0, .ref (a 0)), (1, .int (p0)), (2, .int (p1))] []
  refine zj_iload_n 1 X 1 dX5_announce_0 rfl rfl ?_
  refine zj_iconst 2 X (v := 0) dX5_announce_1 (by decide) rfl ?_
  refine zj_iconst 3 X (v := 5) dX5_announce_2 (by decide) rfl ?_
  refine zc_i 6 (zr_S (As := [.int (p0), .int (0), .int (5)]) (rest := []) X (zc_X5_in (l := l) (p0 := p0) (p1 := 0) (p2 := 5)) zw_X5_104 zn_X5_in (zcR_of rfl) zs0 rfl (Nat.le_of_ble_eq_true rfl) dX5_announce_3) rfl ?_
  refine zj_if_eq 9 22 X dX5_announce_6 (by decide) rfl (fun c1 => ?_) (fun c1 => ?_)
  · rw [if_pos c1] at hv
    refine zj_iconst 23 X (v := 0) dX5_announce_22 (by decide) rfl ?_
    refine zj_istore_n 24 X (lv1 := [(0, .ref (a 0)), (1, .int (p0)), (2, .int (p1)), (3, .int (0))]) [1, 2, 3, 0] dX5_announce_23 (by decide) rfl rfl ?_
    refine zj_aload_n 25 X 0 dX5_announce_24 rfl rfl ?_
    refine zg_RX5_94 28 X (w := zmI v 2) rfl dX5_announce_25 rfl ?_
    refine zj_iconst 29 X (v := 2) dX5_announce_28 (by decide) rfl ?_
    refine zj_icmp_eq 32 40 X dX5_announce_29 (by decide) rfl (fun c2 => ?_) (fun c2 => ?_)
    · rw [if_pos c2] at hv
      refine zj_iconst 41 X (v := 1) dX5_announce_40 (by decide) rfl ?_
      refine zj_goto 45 X dX5_announce_41 (by decide) ?_
      refine zj_istore 47 X (lv1 := [(0, .ref (a 0)), (1, .int (p0)), (2, .int (p1)), (3, .int (0)), (4, .int (1))]) [1, 2, 3, 4, 0] dX5_announce_45 (by decide) rfl rfl ?_
      refine zj_aload_n 48 X 0 dX5_announce_47 rfl rfl ?_
      refine zj_iload_n 49 X 3 dX5_announce_48 rfl rfl ?_
      refine zj_if_ne 52 56 X dX5_announce_49 (by decide) rfl (fun c3 => absurd c3 (by decide)) (fun _ => ?_)
      refine zj_iconst 53 X (v := 1) dX5_announce_52 (by decide) rfl ?_
      refine zj_goto 75 X dX5_announce_53 (by decide) ?_
      refine zc_im 78 (Wd := zM C a) (zr_Vm (As := [.int (1)]) (rest := []) X (zc_X5_holds (l := l) (p0 := 1) (v := v)) zw_X5_100 zn_X5_holds (zcR_of rfl) zO_M (zD_M _ hD) hA rfl (Nat.le_of_ble_eq_true rfl) dX5_announce_75) (zD_M _ hD) hA rfl ?_
      show zJ _ _ _ _ _ _ _ _ _ _ _ _ _ _ _ _ (zM C a (zmI1 v 0 1)) 78 [(0, .ref (a 0)), (1, .int (p0)), (2, .int (p1)), (3, .int (0)), (4, .int (1))] [.int (0)]
      refine zj_if_ne 81 83 X dX5_announce_78 (by decide) rfl (fun c4 => absurd c4 (by decide)) (fun _ => ?_)
      refine zj_iconst 82 X (v := 0) dX5_announce_81 (by decide) rfl ?_
      exact ze_im (Wd := zM C a) (u := zmI1 v 0 1) X Y hv dX5_announce_82
    · rw [if_neg c2] at hv
      refine zj_aload_n 33 X 0 dX5_announce_32 rfl rfl ?_
      refine zg_RX5_94 36 X (w := zmI v 2) rfl dX5_announce_33 rfl ?_
      refine zj_iconst 37 X (v := 4) dX5_announce_36 (by decide) rfl ?_
      refine zj_icmp_ne 40 44 X dX5_announce_37 (by decide) rfl (fun c5 => ?_) (fun c5 => ?_)
      · rw [if_neg c5] at hv
        refine zj_iconst 45 X (v := 0) dX5_announce_44 (by decide) rfl ?_
        refine zj_istore 47 X (lv1 := [(0, .ref (a 0)), (1, .int (p0)), (2, .int (p1)), (3, .int (0)), (4, .int (0))]) [1, 2, 3, 4, 0] dX5_announce_45 (by decide) rfl rfl ?_
        refine zj_aload_n 48 X 0 dX5_announce_47 rfl rfl ?_
        refine zj_iload_n 49 X 3 dX5_announce_48 rfl rfl ?_
        refine zj_if_ne 52 56 X dX5_announce_49 (by decide) rfl (fun c6 => absurd c6 (by decide)) (fun _ => ?_)
        refine zj_iconst 53 X (v := 1) dX5_announce_52 (by decide) rfl ?_
        refine zj_goto 75 X dX5_announce_53 (by decide) ?_
        refine zc_im 78 (Wd := zM C a) (zr_Vm (As := [.int (1)]) (rest := []) X (zc_X5_holds (l := l) (p0 := 1) (v := v)) zw_X5_100 zn_X5_holds (zcR_of rfl) zO_M (zD_M _ hD) hA rfl (Nat.le_of_ble_eq_true rfl) dX5_announce_75) (zD_M _ hD) hA rfl ?_
        show zJ _ _ _ _ _ _ _ _ _ _ _ _ _ _ _ _ (zM C a (zmI1 v 0 1)) 78 [(0, .ref (a 0)), (1, .int (p0)), (2, .int (p1)), (3, .int (0)), (4, .int (0))] [.int (0)]
        refine zj_if_ne 81 83 X dX5_announce_78 (by decide) rfl (fun c7 => absurd c7 (by decide)) (fun _ => ?_)
        refine zj_iconst 82 X (v := 0) dX5_announce_81 (by decide) rfl ?_
        exact ze_im (Wd := zM C a) (u := zmI1 v 0 1) X Y hv dX5_announce_82
      · rw [if_pos c5] at hv
        refine zj_iconst 41 X (v := 1) dX5_announce_40 (by decide) rfl ?_
        refine zj_goto 45 X dX5_announce_41 (by decide) ?_
        refine zj_istore 47 X (lv1 := [(0, .ref (a 0)), (1, .int (p0)), (2, .int (p1)), (3, .int (0)), (4, .int (1))]) [1, 2, 3, 4, 0] dX5_announce_45 (by decide) rfl rfl ?_
        refine zj_aload_n 48 X 0 dX5_announce_47 rfl rfl ?_
        refine zj_iload_n 49 X 3 dX5_announce_48 rfl rfl ?_
        refine zj_if_ne 52 56 X dX5_announce_49 (by decide) rfl (fun c8 => absurd c8 (by decide)) (fun _ => ?_)
        refine zj_iconst 53 X (v := 1) dX5_announce_52 (by decide) rfl ?_
        refine zj_goto 75 X dX5_announce_53 (by decide) ?_
        refine zc_im 78 (Wd := zM C a) (zr_Vm (As := [.int (1)]) (rest := []) X (zc_X5_holds (l := l) (p0 := 1) (v := v)) zw_X5_100 zn_X5_holds (zcR_of rfl) zO_M (zD_M _ hD) hA rfl (Nat.le_of_ble_eq_true rfl) dX5_announce_75) (zD_M _ hD) hA rfl ?_
        show zJ _ _ _ _ _ _ _ _ _ _ _ _ _ _ _ _ (zM C a (zmI1 v 0 1)) 78 [(0, .ref (a 0)), (1, .int (p0)), (2, .int (p1)), (3, .int (0)), (4, .int (1))] [.int (0)]
        refine zj_if_ne 81 83 X dX5_announce_78 (by decide) rfl (fun c9 => absurd c9 (by decide)) (fun _ => ?_)
        refine zj_iconst 82 X (v := 0) dX5_announce_81 (by decide) rfl ?_
        exact ze_im (Wd := zM C a) (u := zmI1 v 0 1) X Y hv dX5_announce_82
  · rw [if_neg c1] at hv
    refine zj_iload_n 10 X 2 dX5_announce_9 rfl rfl ?_
    refine zj_iconst 11 X (v := 0) dX5_announce_10 (by decide) rfl ?_
    refine zj_iconst 12 X (v := 3) dX5_announce_11 (by decide) rfl ?_
    refine zc_i 15 (zr_S (As := [.int (p1), .int (0), .int (3)]) (rest := []) X (zc_X5_in (l := l) (p0 := p1) (p1 := 0) (p2 := 3)) zw_X5_104 zn_X5_in (zcR_of rfl) zs0 rfl (Nat.le_of_ble_eq_true rfl) dX5_announce_12) rfl ?_
    refine zj_if_eq 18 22 X dX5_announce_15 (by decide) rfl (fun c10 => ?_) (fun c10 => ?_)
    · rw [if_pos c10] at hv
      refine zj_iconst 23 X (v := 0) dX5_announce_22 (by decide) rfl ?_
      refine zj_istore_n 24 X (lv1 := [(0, .ref (a 0)), (1, .int (p0)), (2, .int (p1)), (3, .int (0))]) [1, 2, 3, 0] dX5_announce_23 (by decide) rfl rfl ?_
      refine zj_aload_n 25 X 0 dX5_announce_24 rfl rfl ?_
      refine zg_RX5_94 28 X (w := zmI v 2) rfl dX5_announce_25 rfl ?_
      refine zj_iconst 29 X (v := 2) dX5_announce_28 (by decide) rfl ?_
      refine zj_icmp_eq 32 40 X dX5_announce_29 (by decide) rfl (fun c11 => ?_) (fun c11 => ?_)
      · rw [if_pos c11] at hv
        refine zj_iconst 41 X (v := 1) dX5_announce_40 (by decide) rfl ?_
        refine zj_goto 45 X dX5_announce_41 (by decide) ?_
        refine zj_istore 47 X (lv1 := [(0, .ref (a 0)), (1, .int (p0)), (2, .int (p1)), (3, .int (0)), (4, .int (1))]) [1, 2, 3, 4, 0] dX5_announce_45 (by decide) rfl rfl ?_
        refine zj_aload_n 48 X 0 dX5_announce_47 rfl rfl ?_
        refine zj_iload_n 49 X 3 dX5_announce_48 rfl rfl ?_
        refine zj_if_ne 52 56 X dX5_announce_49 (by decide) rfl (fun c12 => absurd c12 (by decide)) (fun _ => ?_)
        refine zj_iconst 53 X (v := 1) dX5_announce_52 (by decide) rfl ?_
        refine zj_goto 75 X dX5_announce_53 (by decide) ?_
        refine zc_im 78 (Wd := zM C a) (zr_Vm (As := [.int (1)]) (rest := []) X (zc_X5_holds (l := l) (p0 := 1) (v := v)) zw_X5_100 zn_X5_holds (zcR_of rfl) zO_M (zD_M _ hD) hA rfl (Nat.le_of_ble_eq_true rfl) dX5_announce_75) (zD_M _ hD) hA rfl ?_
        show zJ _ _ _ _ _ _ _ _ _ _ _ _ _ _ _ _ (zM C a (zmI1 v 0 1)) 78 [(0, .ref (a 0)), (1, .int (p0)), (2, .int (p1)), (3, .int (0)), (4, .int (1))] [.int (0)]
        refine zj_if_ne 81 83 X dX5_announce_78 (by decide) rfl (fun c13 => absurd c13 (by decide)) (fun _ => ?_)
        refine zj_iconst 82 X (v := 0) dX5_announce_81 (by decide) rfl ?_
        exact ze_im (Wd := zM C a) (u := zmI1 v 0 1) X Y hv dX5_announce_82
      · rw [if_neg c11] at hv
        refine zj_aload_n 33 X 0 dX5_announce_32 rfl rfl ?_
        refine zg_RX5_94 36 X (w := zmI v 2) rfl dX5_announce_33 rfl ?_
        refine zj_iconst 37 X (v := 4) dX5_announce_36 (by decide) rfl ?_
        refine zj_icmp_ne 40 44 X dX5_announce_37 (by decide) rfl (fun c14 => ?_) (fun c14 => ?_)
        · rw [if_neg c14] at hv
          refine zj_iconst 45 X (v := 0) dX5_announce_44 (by decide) rfl ?_
          refine zj_istore 47 X (lv1 := [(0, .ref (a 0)), (1, .int (p0)), (2, .int (p1)), (3, .int (0)), (4, .int (0))]) [1, 2, 3, 4, 0] dX5_announce_45 (by decide) rfl rfl ?_
          refine zj_aload_n 48 X 0 dX5_announce_47 rfl rfl ?_
          refine zj_iload_n 49 X 3 dX5_announce_48 rfl rfl ?_
          refine zj_if_ne 52 56 X dX5_announce_49 (by decide) rfl (fun c15 => absurd c15 (by decide)) (fun _ => ?_)
          refine zj_iconst 53 X (v := 1) dX5_announce_52 (by decide) rfl ?_
          refine zj_goto 75 X dX5_announce_53 (by decide) ?_
          refine zc_im 78 (Wd := zM C a) (zr_Vm (As := [.int (1)]) (rest := []) X (zc_X5_holds (l := l) (p0 := 1) (v := v)) zw_X5_100 zn_X5_holds (zcR_of rfl) zO_M (zD_M _ hD) hA rfl (Nat.le_of_ble_eq_true rfl) dX5_announce_75) (zD_M _ hD) hA rfl ?_
          show zJ _ _ _ _ _ _ _ _ _ _ _ _ _ _ _ _ (zM C a (zmI1 v 0 1)) 78 [(0, .ref (a 0)), (1, .int (p0)), (2, .int (p1)), (3, .int (0)), (4, .int (0))] [.int (0)]
          refine zj_if_ne 81 83 X dX5_announce_78 (by decide) rfl (fun c16 => absurd c16 (by decide)) (fun _ => ?_)
          refine zj_iconst 82 X (v := 0) dX5_announce_81 (by decide) rfl ?_
          exact ze_im (Wd := zM C a) (u := zmI1 v 0 1) X Y hv dX5_announce_82
        · rw [if_pos c14] at hv
          refine zj_iconst 41 X (v := 1) dX5_announce_40 (by decide) rfl ?_
          refine zj_goto 45 X dX5_announce_41 (by decide) ?_
          refine zj_istore 47 X (lv1 := [(0, .ref (a 0)), (1, .int (p0)), (2, .int (p1)), (3, .int (0)), (4, .int (1))]) [1, 2, 3, 4, 0] dX5_announce_45 (by decide) rfl rfl ?_
          refine zj_aload_n 48 X 0 dX5_announce_47 rfl rfl ?_
          refine zj_iload_n 49 X 3 dX5_announce_48 rfl rfl ?_
          refine zj_if_ne 52 56 X dX5_announce_49 (by decide) rfl (fun c17 => absurd c17 (by decide)) (fun _ => ?_)
          refine zj_iconst 53 X (v := 1) dX5_announce_52 (by decide) rfl ?_
          refine zj_goto 75 X dX5_announce_53 (by decide) ?_
          refine zc_im 78 (Wd := zM C a) (zr_Vm (As := [.int (1)]) (rest := []) X (zc_X5_holds (l := l) (p0 := 1) (v := v)) zw_X5_100 zn_X5_holds (zcR_of rfl) zO_M (zD_M _ hD) hA rfl (Nat.le_of_ble_eq_true rfl) dX5_announce_75) (zD_M _ hD) hA rfl ?_
          show zJ _ _ _ _ _ _ _ _ _ _ _ _ _ _ _ _ (zM C a (zmI1 v 0 1)) 78 [(0, .ref (a 0)), (1, .int (p0)), (2, .int (p1)), (3, .int (0)), (4, .int (1))] [.int (0)]
          refine zj_if_ne 81 83 X dX5_announce_78 (by decide) rfl (fun c18 => absurd c18 (by decide)) (fun _ => ?_)
          refine zj_iconst 82 X (v := 0) dX5_announce_81 (by decide) rfl ?_
          exact ze_im (Wd := zM C a) (u := zmI1 v 0 1) X Y hv dX5_announce_82
    · rw [if_neg c10] at hv
      refine zj_iconst 19 X (v := 1) dX5_announce_18 (by decide) rfl ?_
      refine zj_goto 23 X dX5_announce_19 (by decide) ?_
      refine zj_istore_n 24 X (lv1 := [(0, .ref (a 0)), (1, .int (p0)), (2, .int (p1)), (3, .int (1))]) [1, 2, 3, 0] dX5_announce_23 (by decide) rfl rfl ?_
      refine zj_aload_n 25 X 0 dX5_announce_24 rfl rfl ?_
      refine zg_RX5_94 28 X (w := zmI v 2) rfl dX5_announce_25 rfl ?_
      refine zj_iconst 29 X (v := 2) dX5_announce_28 (by decide) rfl ?_
      refine zj_icmp_eq 32 40 X dX5_announce_29 (by decide) rfl (fun c19 => ?_) (fun c19 => ?_)
      · rw [if_pos c19] at hv
        refine zj_iconst 41 X (v := 1) dX5_announce_40 (by decide) rfl ?_
        refine zj_goto 45 X dX5_announce_41 (by decide) ?_
        refine zj_istore 47 X (lv1 := [(0, .ref (a 0)), (1, .int (p0)), (2, .int (p1)), (3, .int (1)), (4, .int (1))]) [1, 2, 3, 4, 0] dX5_announce_45 (by decide) rfl rfl ?_
        refine zj_aload_n 48 X 0 dX5_announce_47 rfl rfl ?_
        refine zj_iload_n 49 X 3 dX5_announce_48 rfl rfl ?_
        refine zj_if_ne 52 56 X dX5_announce_49 (by decide) rfl (fun _ => ?_) (fun c20 => absurd c20 (by decide))
        refine zj_iload 58 X 4 dX5_announce_56 rfl rfl ?_
        refine zj_if_eq 61 70 X dX5_announce_58 (by decide) rfl (fun c21 => absurd c21 (by decide)) (fun _ => ?_)
        refine zj_aload_n 62 X 0 dX5_announce_61 rfl rfl ?_
        refine zj_iload_n 63 X 1 dX5_announce_62 rfl rfl ?_
        refine zj_iload_n 64 X 2 dX5_announce_63 rfl rfl ?_
        refine zc_i 67 (zr_V (As := [.int (p0), .int (p1)]) (rest := [.ref (a 0)]) X (zc_X5_isExtra (l := l) (p0 := p0) (p1 := p1) (v := v)) zw_X5_134 zn_X5_isExtra (zcR_of rfl) zO_M zsI rfl (Nat.le_of_ble_eq_true rfl) dX5_announce_64) rfl ?_
        refine zj_if_ne 70 74 X dX5_announce_67 (by decide) rfl (fun c22 => ?_) (fun c22 => ?_)
        · rw [if_neg c22] at hv
          refine zj_iconst 75 X (v := 0) dX5_announce_74 (by decide) rfl ?_
          refine zc_im 78 (Wd := zM C a) (zr_Vm (As := [.int (0)]) (rest := []) X (zc_X5_holds (l := l) (p0 := 0) (v := v)) zw_X5_100 zn_X5_holds (zcR_of rfl) zO_M (zD_M _ hD) hA rfl (Nat.le_of_ble_eq_true rfl) dX5_announce_75) (zD_M _ hD) hA rfl ?_
          show zJ _ _ _ _ _ _ _ _ _ _ _ _ _ _ _ _ (zM C a (zmI1 v 0 0)) 78 [(0, .ref (a 0)), (1, .int (p0)), (2, .int (p1)), (3, .int (1)), (4, .int (1))] [.int (1)]
          refine zj_if_ne 81 83 X dX5_announce_78 (by decide) rfl (fun _ => ?_) (fun c23 => absurd c23 (by decide))
          refine zj_aload_n 84 X 0 dX5_announce_83 rfl rfl ?_
          refine zj_iload_n 85 X 1 dX5_announce_84 rfl rfl ?_
          refine zp_RX5_64 88 X (zD_M _ hD) dX5_announce_85 rfl ?_
          refine zj_aload_n 89 X 0 dX5_announce_88 rfl rfl ?_
          refine zj_iload_n 90 X 2 dX5_announce_89 rfl rfl ?_
          refine zp_RX5_67 93 X (zD_M _ hD) dX5_announce_90 rfl ?_
          refine zj_aload_n 94 X 0 dX5_announce_93 rfl rfl ?_
          refine zj_aload_n 95 X 0 dX5_announce_94 rfl rfl ?_
          refine zg_RX5_94 98 X (w := zmI v 2) rfl dX5_announce_95 rfl ?_
          refine zj_iconst 99 X (v := 2) dX5_announce_98 (by decide) rfl ?_
          refine zj_icmp_ne 102 106 X dX5_announce_99 (by decide) rfl (fun c24 => absurd c19 c24) (fun _ => ?_)
          refine zj_iconst 103 X (v := 1) dX5_announce_102 (by decide) rfl ?_
          refine zj_goto 107 X dX5_announce_103 (by decide) ?_
          refine zp_RX5_70 110 X (zD_M _ hD) (by decide) dX5_announce_107 rfl ?_
          refine zj_aload_n 111 X 0 dX5_announce_110 rfl rfl ?_
          refine zg_RX5_23 114 X dX5_announce_111 rfl ?_
          refine zj_aload_n 115 X 0 dX5_announce_114 rfl rfl ?_
          refine zg_RX5_61 118 X (w := zmI v 12) rfl dX5_announce_115 rfl ?_
          refine zj_dup2_11 119 X dX5_announce_118 rfl rfl rfl ?_
          refine zl_M_points 120 X (w := zmP v ((zmI v 12).toNatClampNeg)) rfl (hE (Or.inl c19)) dX5_announce_119 rfl ?_
          refine zj_aload_n 121 X 0 dX5_announce_120 rfl rfl ?_
          refine zg_RX5_54 124 X (w := zmK v) rfl dX5_announce_121 rfl ?_
          refine zc_i 127 (zr_S (As := [.long (zmK v)]) (rest := [.int (zmP v ((zmI v 12).toNatClampNeg)), .int (zmI v 12), .ref (a 5)]) X (zc_X5_worthOf (l := l) (p0 := zmK v)) zw_X5_130 zn_X5_worthOf (zcR_of rfl) zs0 rfl (Nat.le_of_ble_eq_true rfl) dX5_announce_124) rfl ?_
          refine zj_iadd 128 X dX5_announce_127 rfl ?_
          refine zt_M_points 129 X (zD_M _ hD) (hE (Or.inl c19)) dX5_announce_128 rfl ?_
          refine zj_aload_n 130 X 0 dX5_announce_129 rfl rfl ?_
          refine zc_vm 133 (Wd := zM C a) (zr_Vm (As := []) (rest := []) X (zc_X5_leads (l := l) (v := zmP1 (zmI1 (zmI1 (zmI1 (zmI1 v 0 0) 13 p0) 14 p1) 15 1) ((zmI v 12).toNatClampNeg) ((zmP v ((zmI v 12).toNatClampNeg)) + (zf_X5_worthOf (zmK v))))) zw_X5_114 zn_X5_leads (zcR_of rfl) zO_M (zD_M _ hD) hA rfl (Nat.le_of_ble_eq_true rfl) dX5_announce_130) (zD_M _ hD) hA rfl ?_
          refine zj_aload_n 134 X 0 dX5_announce_133 rfl rfl ?_
          refine zg_RX5_97 137 X (w := zmI (zf_X5_leads (zmP1 (zmI1 (zmI1 (zmI1 (zmI1 v 0 0) 13 p0) 14 p1) 15 1) ((zmI v 12).toNatClampNeg) ((zmP v ((zmI v 12).toNatClampNeg)) + (zf_X5_worthOf (zmK v))))) 3) rfl dX5_announce_134 rfl ?_
          exact ze_im (Wd := zM C a) (u := (zf_X5_leads (zmP1 (zmI1 (zmI1 (zmI1 (zmI1 v 0 0) 13 p0) 14 p1) 15 1) ((zmI v 12).toNatClampNeg) ((zmP v ((zmI v 12).toNatClampNeg)) + (zf_X5_worthOf (zmK v)))))) X Y hv dX5_announce_137
        · rw [if_pos c22] at hv
          refine zj_iconst 71 X (v := 2) dX5_announce_70 (by decide) rfl ?_
          refine zj_goto 75 X dX5_announce_71 (by decide) ?_
          refine zc_im 78 (Wd := zM C a) (zr_Vm (As := [.int (2)]) (rest := []) X (zc_X5_holds (l := l) (p0 := 2) (v := v)) zw_X5_100 zn_X5_holds (zcR_of rfl) zO_M (zD_M _ hD) hA rfl (Nat.le_of_ble_eq_true rfl) dX5_announce_75) (zD_M _ hD) hA rfl ?_
          show zJ _ _ _ _ _ _ _ _ _ _ _ _ _ _ _ _ (zM C a (zmI1 v 0 2)) 78 [(0, .ref (a 0)), (1, .int (p0)), (2, .int (p1)), (3, .int (1)), (4, .int (1))] [.int (0)]
          refine zj_if_ne 81 83 X dX5_announce_78 (by decide) rfl (fun c25 => absurd c25 (by decide)) (fun _ => ?_)
          refine zj_iconst 82 X (v := 0) dX5_announce_81 (by decide) rfl ?_
          exact ze_im (Wd := zM C a) (u := zmI1 v 0 2) X Y hv dX5_announce_82
      · rw [if_neg c19] at hv
        refine zj_aload_n 33 X 0 dX5_announce_32 rfl rfl ?_
        refine zg_RX5_94 36 X (w := zmI v 2) rfl dX5_announce_33 rfl ?_
        refine zj_iconst 37 X (v := 4) dX5_announce_36 (by decide) rfl ?_
        refine zj_icmp_ne 40 44 X dX5_announce_37 (by decide) rfl (fun c26 => ?_) (fun c26 => ?_)
        · rw [if_neg c26] at hv
          refine zj_iconst 45 X (v := 0) dX5_announce_44 (by decide) rfl ?_
          refine zj_istore 47 X (lv1 := [(0, .ref (a 0)), (1, .int (p0)), (2, .int (p1)), (3, .int (1)), (4, .int (0))]) [1, 2, 3, 4, 0] dX5_announce_45 (by decide) rfl rfl ?_
          refine zj_aload_n 48 X 0 dX5_announce_47 rfl rfl ?_
          refine zj_iload_n 49 X 3 dX5_announce_48 rfl rfl ?_
          refine zj_if_ne 52 56 X dX5_announce_49 (by decide) rfl (fun _ => ?_) (fun c27 => absurd c27 (by decide))
          refine zj_iload 58 X 4 dX5_announce_56 rfl rfl ?_
          refine zj_if_eq 61 70 X dX5_announce_58 (by decide) rfl (fun _ => ?_) (fun c28 => absurd c28 (by decide))
          refine zj_iconst 71 X (v := 2) dX5_announce_70 (by decide) rfl ?_
          refine zj_goto 75 X dX5_announce_71 (by decide) ?_
          refine zc_im 78 (Wd := zM C a) (zr_Vm (As := [.int (2)]) (rest := []) X (zc_X5_holds (l := l) (p0 := 2) (v := v)) zw_X5_100 zn_X5_holds (zcR_of rfl) zO_M (zD_M _ hD) hA rfl (Nat.le_of_ble_eq_true rfl) dX5_announce_75) (zD_M _ hD) hA rfl ?_
          show zJ _ _ _ _ _ _ _ _ _ _ _ _ _ _ _ _ (zM C a (zmI1 v 0 2)) 78 [(0, .ref (a 0)), (1, .int (p0)), (2, .int (p1)), (3, .int (1)), (4, .int (0))] [.int (0)]
          refine zj_if_ne 81 83 X dX5_announce_78 (by decide) rfl (fun c29 => absurd c29 (by decide)) (fun _ => ?_)
          refine zj_iconst 82 X (v := 0) dX5_announce_81 (by decide) rfl ?_
          exact ze_im (Wd := zM C a) (u := zmI1 v 0 2) X Y hv dX5_announce_82
        · rw [if_pos c26] at hv
          refine zj_iconst 41 X (v := 1) dX5_announce_40 (by decide) rfl ?_
          refine zj_goto 45 X dX5_announce_41 (by decide) ?_
          refine zj_istore 47 X (lv1 := [(0, .ref (a 0)), (1, .int (p0)), (2, .int (p1)), (3, .int (1)), (4, .int (1))]) [1, 2, 3, 4, 0] dX5_announce_45 (by decide) rfl rfl ?_
          refine zj_aload_n 48 X 0 dX5_announce_47 rfl rfl ?_
          refine zj_iload_n 49 X 3 dX5_announce_48 rfl rfl ?_
          refine zj_if_ne 52 56 X dX5_announce_49 (by decide) rfl (fun _ => ?_) (fun c30 => absurd c30 (by decide))
          refine zj_iload 58 X 4 dX5_announce_56 rfl rfl ?_
          refine zj_if_eq 61 70 X dX5_announce_58 (by decide) rfl (fun c31 => absurd c31 (by decide)) (fun _ => ?_)
          refine zj_aload_n 62 X 0 dX5_announce_61 rfl rfl ?_
          refine zj_iload_n 63 X 1 dX5_announce_62 rfl rfl ?_
          refine zj_iload_n 64 X 2 dX5_announce_63 rfl rfl ?_
          refine zc_i 67 (zr_V (As := [.int (p0), .int (p1)]) (rest := [.ref (a 0)]) X (zc_X5_isExtra (l := l) (p0 := p0) (p1 := p1) (v := v)) zw_X5_134 zn_X5_isExtra (zcR_of rfl) zO_M zsI rfl (Nat.le_of_ble_eq_true rfl) dX5_announce_64) rfl ?_
          refine zj_if_ne 70 74 X dX5_announce_67 (by decide) rfl (fun c32 => ?_) (fun c32 => ?_)
          · rw [if_neg c32] at hv
            refine zj_iconst 75 X (v := 0) dX5_announce_74 (by decide) rfl ?_
            refine zc_im 78 (Wd := zM C a) (zr_Vm (As := [.int (0)]) (rest := []) X (zc_X5_holds (l := l) (p0 := 0) (v := v)) zw_X5_100 zn_X5_holds (zcR_of rfl) zO_M (zD_M _ hD) hA rfl (Nat.le_of_ble_eq_true rfl) dX5_announce_75) (zD_M _ hD) hA rfl ?_
            show zJ _ _ _ _ _ _ _ _ _ _ _ _ _ _ _ _ (zM C a (zmI1 v 0 0)) 78 [(0, .ref (a 0)), (1, .int (p0)), (2, .int (p1)), (3, .int (1)), (4, .int (1))] [.int (1)]
            refine zj_if_ne 81 83 X dX5_announce_78 (by decide) rfl (fun _ => ?_) (fun c33 => absurd c33 (by decide))
            refine zj_aload_n 84 X 0 dX5_announce_83 rfl rfl ?_
            refine zj_iload_n 85 X 1 dX5_announce_84 rfl rfl ?_
            refine zp_RX5_64 88 X (zD_M _ hD) dX5_announce_85 rfl ?_
            refine zj_aload_n 89 X 0 dX5_announce_88 rfl rfl ?_
            refine zj_iload_n 90 X 2 dX5_announce_89 rfl rfl ?_
            refine zp_RX5_67 93 X (zD_M _ hD) dX5_announce_90 rfl ?_
            refine zj_aload_n 94 X 0 dX5_announce_93 rfl rfl ?_
            refine zj_aload_n 95 X 0 dX5_announce_94 rfl rfl ?_
            refine zg_RX5_94 98 X (w := zmI v 2) rfl dX5_announce_95 rfl ?_
            refine zj_iconst 99 X (v := 2) dX5_announce_98 (by decide) rfl ?_
            refine zj_icmp_ne 102 106 X dX5_announce_99 (by decide) rfl (fun _ => ?_) (fun c34 => absurd c34 c19)
            refine zj_iconst 107 X (v := 0) dX5_announce_106 (by decide) rfl ?_
            refine zp_RX5_70 110 X (zD_M _ hD) (by decide) dX5_announce_107 rfl ?_
            refine zj_aload_n 111 X 0 dX5_announce_110 rfl rfl ?_
            refine zg_RX5_23 114 X dX5_announce_111 rfl ?_
            refine zj_aload_n 115 X 0 dX5_announce_114 rfl rfl ?_
            refine zg_RX5_61 118 X (w := zmI v 12) rfl dX5_announce_115 rfl ?_
            refine zj_dup2_11 119 X dX5_announce_118 rfl rfl rfl ?_
            refine zl_M_points 120 X (w := zmP v ((zmI v 12).toNatClampNeg)) rfl (hE (Or.inr c26)) dX5_announce_119 rfl ?_
            refine zj_aload_n 121 X 0 dX5_announce_120 rfl rfl ?_
            refine zg_RX5_54 124 X (w := zmK v) rfl dX5_announce_121 rfl ?_
            refine zc_i 127 (zr_S (As := [.long (zmK v)]) (rest := [.int (zmP v ((zmI v 12).toNatClampNeg)), .int (zmI v 12), .ref (a 5)]) X (zc_X5_worthOf (l := l) (p0 := zmK v)) zw_X5_130 zn_X5_worthOf (zcR_of rfl) zs0 rfl (Nat.le_of_ble_eq_true rfl) dX5_announce_124) rfl ?_
            refine zj_iadd 128 X dX5_announce_127 rfl ?_
            refine zt_M_points 129 X (zD_M _ hD) (hE (Or.inr c26)) dX5_announce_128 rfl ?_
            refine zj_aload_n 130 X 0 dX5_announce_129 rfl rfl ?_
            refine zc_vm 133 (Wd := zM C a) (zr_Vm (As := []) (rest := []) X (zc_X5_leads (l := l) (v := zmP1 (zmI1 (zmI1 (zmI1 (zmI1 v 0 0) 13 p0) 14 p1) 15 0) ((zmI v 12).toNatClampNeg) ((zmP v ((zmI v 12).toNatClampNeg)) + (zf_X5_worthOf (zmK v))))) zw_X5_114 zn_X5_leads (zcR_of rfl) zO_M (zD_M _ hD) hA rfl (Nat.le_of_ble_eq_true rfl) dX5_announce_130) (zD_M _ hD) hA rfl ?_
            refine zj_aload_n 134 X 0 dX5_announce_133 rfl rfl ?_
            refine zg_RX5_97 137 X (w := zmI (zf_X5_leads (zmP1 (zmI1 (zmI1 (zmI1 (zmI1 v 0 0) 13 p0) 14 p1) 15 0) ((zmI v 12).toNatClampNeg) ((zmP v ((zmI v 12).toNatClampNeg)) + (zf_X5_worthOf (zmK v))))) 3) rfl dX5_announce_134 rfl ?_
            exact ze_im (Wd := zM C a) (u := (zf_X5_leads (zmP1 (zmI1 (zmI1 (zmI1 (zmI1 v 0 0) 13 p0) 14 p1) 15 0) ((zmI v 12).toNatClampNeg) ((zmP v ((zmI v 12).toNatClampNeg)) + (zf_X5_worthOf (zmK v)))))) X Y hv dX5_announce_137
          · rw [if_pos c32] at hv
            refine zj_iconst 71 X (v := 2) dX5_announce_70 (by decide) rfl ?_
            refine zj_goto 75 X dX5_announce_71 (by decide) ?_
            refine zc_im 78 (Wd := zM C a) (zr_Vm (As := [.int (2)]) (rest := []) X (zc_X5_holds (l := l) (p0 := 2) (v := v)) zw_X5_100 zn_X5_holds (zcR_of rfl) zO_M (zD_M _ hD) hA rfl (Nat.le_of_ble_eq_true rfl) dX5_announce_75) (zD_M _ hD) hA rfl ?_
            show zJ _ _ _ _ _ _ _ _ _ _ _ _ _ _ _ _ (zM C a (zmI1 v 0 2)) 78 [(0, .ref (a 0)), (1, .int (p0)), (2, .int (p1)), (3, .int (1)), (4, .int (1))] [.int (0)]
            refine zj_if_ne 81 83 X dX5_announce_78 (by decide) rfl (fun c35 => absurd c35 (by decide)) (fun _ => ?_)
            refine zj_iconst 82 X (v := 0) dX5_announce_81 (by decide) rfl ?_
            exact ze_im (Wd := zM C a) (u := zmI1 v 0 2) X Y hv dX5_announce_82
def zl_X5_gapless_lp11 (v : zN) (p0 : Int32) (p1 : Int32) (x3 : Int64) : Nat → Nat → Int32
  | 0, i => if (zf_X5_has x3 (zf_X5_trump 0 p1)) = 0 then -(nI i) else nI i
  | k + 1, i => if (zf_X5_has x3 (zf_X5_trump (nI i) p1)) = (zf_X5_has x3 (zf_X5_trump 0 p1)) then zl_X5_gapless_lp11 v p0 p1 x3 k (i + 1) else (if (zf_X5_has x3 (zf_X5_trump 0 p1)) = 0 then -(nI i) else nI i)
def zl_X5_gapless_lp4 (v : zN) (p0 : Int32) (p1 : Int32) (x3 : Int64) : Nat → Nat → Int32
  | 0, i => if (zf_X5_has x3 (zf_X5_trump 0 p1)) = 0 then -(nI i) else nI i
  | k + 1, i => if (zf_X5_has x3 (zf_X5_trump (nI i) p1)) = (zf_X5_has x3 (zf_X5_trump 0 p1)) then zl_X5_gapless_lp4 v p0 p1 x3 k (i + 1) else (if (zf_X5_has x3 (zf_X5_trump 0 p1)) = 0 then -(nI i) else nI i)
def zk_X5_gapless_31 (v : zN) (p0 : Int32) (p1 : Int32) (x3 : Int64) : Int32 := if p1 = 4 then zl_X5_gapless_lp4 v p0 p1 x3 4 0 else zl_X5_gapless_lp11 v p0 p1 x3 11 0
def zf_X5_gapless (v : zN) (p0 : Int32) (p1 : Int32) : Int32 := zk_X5_gapless_31 v p0 p1 (((zmC v p0.toNatClampNeg) ||| (zmL v p0.toNatClampNeg)) ||| (if p0 = (zmI v 12) then zmK v else 0))
abbrev zR_X5_gapless : Room := { frames := 1, cells := 0, slots := 0, locals := 22 }
set_option maxHeartbeats 4000000 in
set_option maxRecDepth 100000 in
theorem zc_X5_gapless {l : Launch} {D : va_G} {C : ClassId × ClassId} {a : Nat → Nat} {v : zN} {p0 : Int32} {p1 : Int32} (hp : vp_in p0 3) : zk_Mp l yX5_gapless cX5_gapless 8 (some .int) zR_X5_gapless [.ref (a 0), .int (p0), .int (p1)] (zM C a v) D C (vp_Si (fun r => r = zf_X5_gapless v p0 p1)) := by
  refine zk_mp (by decide) (Nat.le_of_ble_eq_true rfl) ?_
  intro p e s m below meth c X Y
  generalize hv : zf_X5_gapless v p0 p1 = V
  unfold zf_X5_gapless at hv
  show zJ _ _ _ _ _ _ _ _ _ _ _ _ _ _ _ _ _ 0 [(0, .ref (a 0)), (1, .int (p0)), (2, .int (p1))] []
  refine zj_aload_n 1 X 0 dX5_gapless_0 rfl rfl ?_
  refine zg_RX5_13 4 X dX5_gapless_1 rfl ?_
  refine zj_iload_n 5 X 1 dX5_gapless_4 rfl rfl ?_
  refine zl_M_hands 6 X (w := zmC v p0.toNatClampNeg) rfl hp dX5_gapless_5 rfl ?_
  refine zj_aload_n 7 X 0 dX5_gapless_6 rfl rfl ?_
  refine zg_RX5_17 10 X dX5_gapless_7 rfl ?_
  refine zj_iload_n 11 X 1 dX5_gapless_10 rfl rfl ?_
  refine zl_M_played 12 X (w := zmL v p0.toNatClampNeg) rfl hp dX5_gapless_11 rfl ?_
  refine zj_lor 13 X dX5_gapless_12 rfl ?_
  refine zj_iload_n 14 X 1 dX5_gapless_13 rfl rfl ?_
  refine zj_aload_n 15 X 0 dX5_gapless_14 rfl rfl ?_
  refine zg_RX5_61 18 X (w := zmI v 12) rfl dX5_gapless_15 rfl ?_
  refine zj_join 29 [(0, .ref (a 0)), (1, .int (p0)), (2, .int (p1))] [.long (if p0 = (zmI v 12) then zmK v else 0), .long ((zmC v p0.toNatClampNeg) ||| (zmL v p0.toNatClampNeg))] ?_ (fun J2 => ?_)
  · refine zj_lor 30 X dX5_gapless_29 rfl ?_
    refine zj_lstore_n 31 X (lv1 := [(0, .ref (a 0)), (1, .int (p0)), (2, .int (p1)), (3, .long (((zmC v p0.toNatClampNeg) ||| (zmL v p0.toNatClampNeg)) ||| (if p0 = (zmI v 12) then zmK v else 0)))]) [1, 2, 3, 0] dX5_gapless_30 (by decide) rfl rfl ?_
    have L3 : ∀ (x3 : Int64), zk_X5_gapless_31 v p0 p1 x3 = V → zJ p l e zR_X5_gapless s m ([.ref (a 0), .int (p0), .int (p1)] : List Value).toArray below meth c 0 0 (MQ below (vp_Si (fun r => r = V)) ([.ref (a 0), .int (p0), .int (p1)] : List Value).toArray s 0 0 (fun _ => False)) D (zk_K0 s) 8 (zM C a v) 31 [(0, .ref (a 0)), (1, .int (p0)), (2, .int (p1)), (3, .long (x3))] [] := by
      intro x3 hv
      unfold zk_X5_gapless_31 at hv
      refine zj_iload_n 32 X 2 dX5_gapless_31 rfl rfl ?_
      refine zj_iconst 33 X (v := 4) dX5_gapless_32 (by decide) rfl ?_
      refine zj_icmp_ne 36 40 X dX5_gapless_33 (by decide) rfl (fun c4 => ?_) (fun c4 => ?_)
      · rw [if_neg c4] at hv
        refine zj_bipush 42 X (v := 11) dX5_gapless_40 (by decide) rfl ?_
        refine zj_istore 44 X (lv1 := [(0, .ref (a 0)), (1, .int (p0)), (2, .int (p1)), (3, .long (x3)), (5, .int (11))]) [1, 2, 3, 4, 0] dX5_gapless_42 (by decide) rfl rfl ?_
        refine zj_lload_n 45 X 3 dX5_gapless_44 rfl rfl ?_
        refine zj_iconst 46 X (v := 0) dX5_gapless_45 (by decide) rfl ?_
        refine zj_iload_n 47 X 2 dX5_gapless_46 rfl rfl ?_
        refine zc_i 50 (zr_S (As := [.int (0), .int (p1)]) (rest := [.long (x3)]) X (zc_X5_trump (l := l) (p0 := 0) (p1 := p1)) zw_X5_138 zn_X5_trump (zcR_of rfl) zs0 rfl (Nat.le_of_ble_eq_true rfl) dX5_gapless_47) rfl ?_
        refine zc_i 53 (zr_S (As := [.long (x3), .int (zf_X5_trump 0 p1)]) (rest := []) X (zc_X5_has (l := l) (p0 := x3) (p1 := zf_X5_trump 0 p1)) zw_X5_120 zn_X5_has (zcR_of rfl) zs0 rfl (Nat.le_of_ble_eq_true rfl) dX5_gapless_50) rfl ?_
        refine zj_istore 55 X (lv1 := [(0, .ref (a 0)), (1, .int (p0)), (2, .int (p1)), (3, .long (x3)), (5, .int (11)), (6, .int (zf_X5_has x3 (zf_X5_trump 0 p1)))]) [1, 2, 3, 4, 5, 0] dX5_gapless_53 (by decide) rfl rfl ?_
        refine zj_iconst 56 X (v := 0) dX5_gapless_55 (by decide) rfl ?_
        refine zj_istore 58 X (lv1 := [(0, .ref (a 0)), (1, .int (p0)), (2, .int (p1)), (3, .long (x3)), (5, .int (11)), (6, .int (zf_X5_has x3 (zf_X5_trump 0 p1))), (7, .int (0))]) [1, 2, 3, 4, 5, 6, 0] dX5_gapless_56 (by decide) rfl rfl ?_
        have L5 : ∀ (k i : Nat) , i + k = 11 → zl_X5_gapless_lp11 v p0 p1 x3 k i = V → zJ p l e zR_X5_gapless s m ([.ref (a 0), .int (p0), .int (p1)] : List Value).toArray below meth c 0 0 (MQ below (vp_Si (fun r => r = V)) ([.ref (a 0), .int (p0), .int (p1)] : List Value).toArray s 0 0 (fun _ => False)) D (zk_K0 s) 8 (zM C a v) 58 [(0, .ref (a 0)), (1, .int (p0)), (2, .int (p1)), (3, .long (x3)), (5, .int (11)), (6, .int (zf_X5_has x3 (zf_X5_trump 0 p1))), (7, .int (nI i))] [] := by
          intro k
          induction k with
          | zero =>
            intro i h1 hv
            rw [zl_X5_gapless_lp11] at hv
            refine zj_iload 60 X 6 dX5_gapless_58 rfl rfl ?_
            refine zj_iload 62 X 4 dX5_gapless_60 rfl rfl ?_
            refine zj_icmp_ge 65 86 X dX5_gapless_62 (by decide) rfl (fun _ => ?_) (fun c6 => absurd (zge0 (N := 11) (by rfl) (by omega)) c6)
            refine zj_iload 88 X 5 dX5_gapless_86 rfl rfl ?_
            refine zj_if_eq 91 96 X dX5_gapless_88 (by decide) rfl (fun c7 => ?_) (fun c7 => ?_)
            · rw [if_pos c7] at hv
              refine zj_iload 98 X 6 dX5_gapless_96 rfl rfl ?_
              refine zj_ineg 99 X dX5_gapless_98 rfl ?_
              exact ze_i X Y hv dX5_gapless_99
            · rw [if_neg c7] at hv
              refine zj_iload 93 X 6 dX5_gapless_91 rfl rfl ?_
              refine zj_goto 99 X dX5_gapless_93 (by decide) ?_
              exact ze_i X Y hv dX5_gapless_99
          | succ k ih =>
            intro i h1 hv
            rw [zl_X5_gapless_lp11] at hv
            refine zj_iload 60 X 6 dX5_gapless_58 rfl rfl ?_
            refine zj_iload 62 X 4 dX5_gapless_60 rfl rfl ?_
            refine zj_icmp_ge 65 86 X dX5_gapless_62 (by decide) rfl (fun c8 => absurd c8 (zge (N := 11) (by rfl) (by omega) (by decide))) (fun _ => ?_)
            refine zj_lload_n 66 X 3 dX5_gapless_65 rfl rfl ?_
            refine zj_iload 68 X 6 dX5_gapless_66 rfl rfl ?_
            refine zj_iload_n 69 X 2 dX5_gapless_68 rfl rfl ?_
            refine zc_i 72 (zr_S (As := [.int (nI i), .int (p1)]) (rest := [.long (x3)]) X (zc_X5_trump (l := l) (p0 := nI i) (p1 := p1)) zw_X5_138 zn_X5_trump (zcR_of rfl) zs0 rfl (Nat.le_of_ble_eq_true rfl) dX5_gapless_69) rfl ?_
            refine zc_i 75 (zr_S (As := [.long (x3), .int (zf_X5_trump (nI i) p1)]) (rest := []) X (zc_X5_has (l := l) (p0 := x3) (p1 := zf_X5_trump (nI i) p1)) zw_X5_120 zn_X5_has (zcR_of rfl) zs0 rfl (Nat.le_of_ble_eq_true rfl) dX5_gapless_72) rfl ?_
            refine zj_iload 77 X 5 dX5_gapless_75 rfl rfl ?_
            refine zj_icmp_ne 80 86 X dX5_gapless_77 (by decide) rfl (fun c9 => ?_) (fun c9 => ?_)
            · rw [if_neg c9] at hv
              refine zj_iload 88 X 5 dX5_gapless_86 rfl rfl ?_
              refine zj_if_eq 91 96 X dX5_gapless_88 (by decide) rfl (fun c10 => ?_) (fun c10 => ?_)
              · rw [if_pos c10] at hv
                refine zj_iload 98 X 6 dX5_gapless_96 rfl rfl ?_
                refine zj_ineg 99 X dX5_gapless_98 rfl ?_
                exact ze_i X Y hv dX5_gapless_99
              · rw [if_neg c10] at hv
                refine zj_iload 93 X 6 dX5_gapless_91 rfl rfl ?_
                refine zj_goto 99 X dX5_gapless_93 (by decide) ?_
                exact ze_i X Y hv dX5_gapless_99
            · rw [if_pos c9] at hv
              refine zj_iinc 83 X (v := nI (i + 1)) (lv1 := [(0, .ref (a 0)), (1, .int (p0)), (2, .int (p1)), (3, .long (x3)), (5, .int (11)), (6, .int (zf_X5_has x3 (zf_X5_trump 0 p1))), (7, .int (nI (i + 1)))]) 6 [1, 2, 3, 4, 5, 6, 0] dX5_gapless_80 rfl (zinc _) (by decide) rfl rfl ?_
              refine zj_goto 58 X dX5_gapless_83 (by decide) ?_
              exact ih (i + 1)  (by omega)  hv
        exact L5 11 0 (by decide)  hv
      · rw [if_pos c4] at hv
        refine zj_iconst 37 X (v := 4) dX5_gapless_36 (by decide) rfl ?_
        refine zj_goto 42 X dX5_gapless_37 (by decide) ?_
        refine zj_istore 44 X (lv1 := [(0, .ref (a 0)), (1, .int (p0)), (2, .int (p1)), (3, .long (x3)), (5, .int (4))]) [1, 2, 3, 4, 0] dX5_gapless_42 (by decide) rfl rfl ?_
        refine zj_lload_n 45 X 3 dX5_gapless_44 rfl rfl ?_
        refine zj_iconst 46 X (v := 0) dX5_gapless_45 (by decide) rfl ?_
        refine zj_iload_n 47 X 2 dX5_gapless_46 rfl rfl ?_
        refine zc_i 50 (zr_S (As := [.int (0), .int (p1)]) (rest := [.long (x3)]) X (zc_X5_trump (l := l) (p0 := 0) (p1 := p1)) zw_X5_138 zn_X5_trump (zcR_of rfl) zs0 rfl (Nat.le_of_ble_eq_true rfl) dX5_gapless_47) rfl ?_
        refine zc_i 53 (zr_S (As := [.long (x3), .int (zf_X5_trump 0 p1)]) (rest := []) X (zc_X5_has (l := l) (p0 := x3) (p1 := zf_X5_trump 0 p1)) zw_X5_120 zn_X5_has (zcR_of rfl) zs0 rfl (Nat.le_of_ble_eq_true rfl) dX5_gapless_50) rfl ?_
        refine zj_istore 55 X (lv1 := [(0, .ref (a 0)), (1, .int (p0)), (2, .int (p1)), (3, .long (x3)), (5, .int (4)), (6, .int (zf_X5_has x3 (zf_X5_trump 0 p1)))]) [1, 2, 3, 4, 5, 0] dX5_gapless_53 (by decide) rfl rfl ?_
        refine zj_iconst 56 X (v := 0) dX5_gapless_55 (by decide) rfl ?_
        refine zj_istore 58 X (lv1 := [(0, .ref (a 0)), (1, .int (p0)), (2, .int (p1)), (3, .long (x3)), (5, .int (4)), (6, .int (zf_X5_has x3 (zf_X5_trump 0 p1))), (7, .int (0))]) [1, 2, 3, 4, 5, 6, 0] dX5_gapless_56 (by decide) rfl rfl ?_
        have L11 : ∀ (k i : Nat) , i + k = 4 → zl_X5_gapless_lp4 v p0 p1 x3 k i = V → zJ p l e zR_X5_gapless s m ([.ref (a 0), .int (p0), .int (p1)] : List Value).toArray below meth c 0 0 (MQ below (vp_Si (fun r => r = V)) ([.ref (a 0), .int (p0), .int (p1)] : List Value).toArray s 0 0 (fun _ => False)) D (zk_K0 s) 8 (zM C a v) 58 [(0, .ref (a 0)), (1, .int (p0)), (2, .int (p1)), (3, .long (x3)), (5, .int (4)), (6, .int (zf_X5_has x3 (zf_X5_trump 0 p1))), (7, .int (nI i))] [] := by
          intro k
          induction k with
          | zero =>
            intro i h1 hv
            rw [zl_X5_gapless_lp4] at hv
            refine zj_iload 60 X 6 dX5_gapless_58 rfl rfl ?_
            refine zj_iload 62 X 4 dX5_gapless_60 rfl rfl ?_
            refine zj_icmp_ge 65 86 X dX5_gapless_62 (by decide) rfl (fun _ => ?_) (fun c12 => absurd (zge0 (N := 4) (by rfl) (by omega)) c12)
            refine zj_iload 88 X 5 dX5_gapless_86 rfl rfl ?_
            refine zj_if_eq 91 96 X dX5_gapless_88 (by decide) rfl (fun c13 => ?_) (fun c13 => ?_)
            · rw [if_pos c13] at hv
              refine zj_iload 98 X 6 dX5_gapless_96 rfl rfl ?_
              refine zj_ineg 99 X dX5_gapless_98 rfl ?_
              exact ze_i X Y hv dX5_gapless_99
            · rw [if_neg c13] at hv
              refine zj_iload 93 X 6 dX5_gapless_91 rfl rfl ?_
              refine zj_goto 99 X dX5_gapless_93 (by decide) ?_
              exact ze_i X Y hv dX5_gapless_99
          | succ k ih =>
            intro i h1 hv
            rw [zl_X5_gapless_lp4] at hv
            refine zj_iload 60 X 6 dX5_gapless_58 rfl rfl ?_
            refine zj_iload 62 X 4 dX5_gapless_60 rfl rfl ?_
            refine zj_icmp_ge 65 86 X dX5_gapless_62 (by decide) rfl (fun c14 => absurd c14 (zge (N := 4) (by rfl) (by omega) (by decide))) (fun _ => ?_)
            refine zj_lload_n 66 X 3 dX5_gapless_65 rfl rfl ?_
            refine zj_iload 68 X 6 dX5_gapless_66 rfl rfl ?_
            refine zj_iload_n 69 X 2 dX5_gapless_68 rfl rfl ?_
            refine zc_i 72 (zr_S (As := [.int (nI i), .int (p1)]) (rest := [.long (x3)]) X (zc_X5_trump (l := l) (p0 := nI i) (p1 := p1)) zw_X5_138 zn_X5_trump (zcR_of rfl) zs0 rfl (Nat.le_of_ble_eq_true rfl) dX5_gapless_69) rfl ?_
            refine zc_i 75 (zr_S (As := [.long (x3), .int (zf_X5_trump (nI i) p1)]) (rest := []) X (zc_X5_has (l := l) (p0 := x3) (p1 := zf_X5_trump (nI i) p1)) zw_X5_120 zn_X5_has (zcR_of rfl) zs0 rfl (Nat.le_of_ble_eq_true rfl) dX5_gapless_72) rfl ?_
            refine zj_iload 77 X 5 dX5_gapless_75 rfl rfl ?_
            refine zj_icmp_ne 80 86 X dX5_gapless_77 (by decide) rfl (fun c15 => ?_) (fun c15 => ?_)
            · rw [if_neg c15] at hv
              refine zj_iload 88 X 5 dX5_gapless_86 rfl rfl ?_
              refine zj_if_eq 91 96 X dX5_gapless_88 (by decide) rfl (fun c16 => ?_) (fun c16 => ?_)
              · rw [if_pos c16] at hv
                refine zj_iload 98 X 6 dX5_gapless_96 rfl rfl ?_
                refine zj_ineg 99 X dX5_gapless_98 rfl ?_
                exact ze_i X Y hv dX5_gapless_99
              · rw [if_neg c16] at hv
                refine zj_iload 93 X 6 dX5_gapless_91 rfl rfl ?_
                refine zj_goto 99 X dX5_gapless_93 (by decide) ?_
                exact ze_i X Y hv dX5_gapless_99
            · rw [if_pos c15] at hv
              refine zj_iinc 83 X (v := nI (i + 1)) (lv1 := [(0, .ref (a 0)), (1, .int (p0)), (2, .int (p1)), (3, .long (x3)), (5, .int (4)), (6, .int (zf_X5_has x3 (zf_X5_trump 0 p1))), (7, .int (nI (i + 1)))]) 6 [1, 2, 3, 4, 5, 6, 0] dX5_gapless_80 rfl (zinc _) (by decide) rfl rfl ?_
              refine zj_goto 58 X dX5_gapless_83 (by decide) ?_
              exact ih (i + 1)  (by omega)  hv
        exact L11 4 0 (by decide)  hv
    exact L3 (((zmC v p0.toNatClampNeg) ||| (zmL v p0.toNatClampNeg)) ||| (if p0 = (zmI v 12) then zmK v else 0))  hv
  · refine zj_icmp_ne 21 28 X dX5_gapless_18 (by decide) rfl (fun c17 => ?_) (fun c17 => ?_)
    · refine zj_lconst 29 X (v := 0) dX5_gapless_28 (by decide) rfl ?_
      simpa only [if_neg c17] using J2
    · refine zj_aload_n 22 X 0 dX5_gapless_21 rfl rfl ?_
      refine zg_RX5_54 25 X (w := zmK v) rfl dX5_gapless_22 rfl ?_
      refine zj_goto 29 X dX5_gapless_25 (by decide) ?_
      simpa only [if_pos c17] using J2
def zf_X5_matadors (v : zN) (p0 : Int32) (p1 : Int32) : Int32 × zN := if (zf_X5_in p0 0 2) = 0 then (0, zmI1 v 0 1) else (if (zf_X5_in p1 0 4) = 0 then (0, zmI1 v 0 2) else (zf_X5_gapless (zmI1 v 0 0) p0 p1, zmI1 v 0 0))
abbrev zR_X5_matadors : Room := { frames := 2, cells := 0, slots := 0, locals := 49 }
set_option maxHeartbeats 4000000 in
set_option maxRecDepth 100000 in
theorem zc_X5_matadors {l : Launch} {D : va_G} {C : ClassId × ClassId} {a : Nat → Nat} {v : zN} {p0 : Int32} {p1 : Int32} : zk_Mm l yX5_matadors cX5_matadors 3 (some .int) zR_X5_matadors [.ref (a 0), .int (p0), .int (p1)] (zM C a v) D C (fun A => va_Qi (fun r u' => (r, u') = zf_X5_matadors v p0 p1) (fun u' t => va_P D vwCl (zM C a u') t.heap) A) := by
  refine zk_mm (by decide) (Nat.le_of_ble_eq_true rfl) ?_
  intro p e s m below meth c A X Y hD hA
  generalize hv : zf_X5_matadors v p0 p1 = V
  unfold zf_X5_matadors at hv
  show zJ _ _ _ _ _ _ _ _ _ _ _ _ _ _ _ _ _ 0 [(0, .ref (a 0)), (1, .int (p0)), (2, .int (p1))] []
  refine zj_aload_n 1 X 0 dX5_matadors_0 rfl rfl ?_
  refine zj_iload_n 2 X 1 dX5_matadors_1 rfl rfl ?_
  refine zj_iconst 3 X (v := 0) dX5_matadors_2 (by decide) rfl ?_
  refine zj_iconst 4 X (v := 2) dX5_matadors_3 (by decide) rfl ?_
  refine zc_i 7 (zr_S (As := [.int (p0), .int (0), .int (2)]) (rest := [.ref (a 0)]) X (zc_X5_in (l := l) (p0 := p0) (p1 := 0) (p2 := 2)) zw_X5_104 zn_X5_in (zcR_of rfl) zs0 rfl (Nat.le_of_ble_eq_true rfl) dX5_matadors_4) rfl ?_
  refine zj_if_ne 10 14 X dX5_matadors_7 (by decide) rfl (fun c1 => ?_) (fun c1 => ?_)
  · rw [if_neg c1] at hv
    refine zj_iload_n 15 X 2 dX5_matadors_14 rfl rfl ?_
    refine zj_iconst 16 X (v := 0) dX5_matadors_15 (by decide) rfl ?_
    refine zj_iconst 17 X (v := 4) dX5_matadors_16 (by decide) rfl ?_
    refine zc_i 20 (zr_S (As := [.int (p1), .int (0), .int (4)]) (rest := [.ref (a 0)]) X (zc_X5_in (l := l) (p0 := p1) (p1 := 0) (p2 := 4)) zw_X5_104 zn_X5_in (zcR_of rfl) zs0 rfl (Nat.le_of_ble_eq_true rfl) dX5_matadors_17) rfl ?_
    refine zj_if_eq 23 27 X dX5_matadors_20 (by decide) rfl (fun c2 => ?_) (fun c2 => ?_)
    · rw [if_pos c2] at hv
      refine zj_iconst 28 X (v := 2) dX5_matadors_27 (by decide) rfl ?_
      refine zc_im 31 (Wd := zM C a) (zr_Vm (As := [.int (2)]) (rest := []) X (zc_X5_holds (l := l) (p0 := 2) (v := v)) zw_X5_100 zn_X5_holds (zcR_of rfl) zO_M (zD_M _ hD) hA rfl (Nat.le_of_ble_eq_true rfl) dX5_matadors_28) (zD_M _ hD) hA rfl ?_
      show zJ _ _ _ _ _ _ _ _ _ _ _ _ _ _ _ _ (zM C a (zmI1 v 0 2)) 31 [(0, .ref (a 0)), (1, .int (p0)), (2, .int (p1))] [.int (0)]
      refine zj_if_eq 34 43 X dX5_matadors_31 (by decide) rfl (fun _ => ?_) (fun c3 => absurd c3 (by decide))
      refine zj_iconst 44 X (v := 0) dX5_matadors_43 (by decide) rfl ?_
      exact ze_im (Wd := zM C a) (u := zmI1 v 0 2) X Y hv dX5_matadors_44
    · rw [if_neg c2] at hv
      refine zj_iconst 24 X (v := 0) dX5_matadors_23 (by decide) rfl ?_
      refine zj_goto 28 X dX5_matadors_24 (by decide) ?_
      refine zc_im 31 (Wd := zM C a) (zr_Vm (As := [.int (0)]) (rest := []) X (zc_X5_holds (l := l) (p0 := 0) (v := v)) zw_X5_100 zn_X5_holds (zcR_of rfl) zO_M (zD_M _ hD) hA rfl (Nat.le_of_ble_eq_true rfl) dX5_matadors_28) (zD_M _ hD) hA rfl ?_
      show zJ _ _ _ _ _ _ _ _ _ _ _ _ _ _ _ _ (zM C a (zmI1 v 0 0)) 31 [(0, .ref (a 0)), (1, .int (p0)), (2, .int (p1))] [.int (1)]
      refine zj_if_eq 34 43 X dX5_matadors_31 (by decide) rfl (fun c4 => absurd c4 (by decide)) (fun _ => ?_)
      refine zj_aload_n 35 X 0 dX5_matadors_34 rfl rfl ?_
      refine zj_iload_n 36 X 1 dX5_matadors_35 rfl rfl ?_
      refine zj_iload_n 37 X 2 dX5_matadors_36 rfl rfl ?_
      refine zc_i 40 (zr_V (As := [.int (p0), .int (p1)]) (rest := []) X (zc_X5_gapless (l := l) (p0 := p0) (p1 := p1) (v := zmI1 v 0 0) (hp := (zin02 c1))) zw_X5_142 zn_X5_gapless (zcR_of rfl) zO_M zsI rfl (Nat.le_of_ble_eq_true rfl) dX5_matadors_37) rfl ?_
      refine zj_goto 44 X dX5_matadors_40 (by decide) ?_
      exact ze_im (Wd := zM C a) (u := zmI1 v 0 0) X Y hv dX5_matadors_44
  · rw [if_pos c1] at hv
    refine zj_iconst 11 X (v := 1) dX5_matadors_10 (by decide) rfl ?_
    refine zj_goto 28 X dX5_matadors_11 (by decide) ?_
    refine zc_im 31 (Wd := zM C a) (zr_Vm (As := [.int (1)]) (rest := []) X (zc_X5_holds (l := l) (p0 := 1) (v := v)) zw_X5_100 zn_X5_holds (zcR_of rfl) zO_M (zD_M _ hD) hA rfl (Nat.le_of_ble_eq_true rfl) dX5_matadors_28) (zD_M _ hD) hA rfl ?_
    show zJ _ _ _ _ _ _ _ _ _ _ _ _ _ _ _ _ (zM C a (zmI1 v 0 1)) 31 [(0, .ref (a 0)), (1, .int (p0)), (2, .int (p1))] [.int (0)]
    refine zj_if_eq 34 43 X dX5_matadors_31 (by decide) rfl (fun _ => ?_) (fun c5 => absurd c5 (by decide))
    refine zj_iconst 44 X (v := 0) dX5_matadors_43 (by decide) rfl ?_
    exact ze_im (Wd := zM C a) (u := zmI1 v 0 1) X Y hv dX5_matadors_44
def zf_X5_colour (v : zN) (p0 : Int32) : Int32 := if (zmI v 13) = 5 then p0 / 8 else (if (p0 - p0 / 8 * 8) = 7 then 4 else (if (p0 / 8) = (zmI v 13) then 4 else p0 / 8))
abbrev zR_X5_colour : Room := { frames := 0, cells := 0, slots := 0, locals := 0 }
set_option maxHeartbeats 4000000 in
set_option maxRecDepth 100000 in
theorem zc_X5_colour {l : Launch} {D : va_G} {C : ClassId × ClassId} {a : Nat → Nat} {v : zN} {p0 : Int32} : zk_Mp l yX5_colour cX5_colour 3 (some .int) zR_X5_colour [.ref (a 0), .int (p0)] (zM C a v) D C (vp_Si (fun r => r = zf_X5_colour v p0)) := by
  refine zk_mp (by decide) (Nat.le_of_ble_eq_true rfl) ?_
  intro p e s m below meth c X Y
  generalize hv : zf_X5_colour v p0 = V
  unfold zf_X5_colour at hv
  show zJ _ _ _ _ _ _ _ _ _ _ _ _ _ _ _ _ _ 0 [(0, .ref (a 0)), (1, .int (p0))] []
  refine zj_aload_n 1 X 0 dX5_colour_0 rfl rfl ?_
  refine zg_RX5_64 4 X (w := zmI v 13) rfl dX5_colour_1 rfl ?_
  refine zj_iconst 5 X (v := 5) dX5_colour_4 (by decide) rfl ?_
  refine zj_icmp_eq 8 32 X dX5_colour_5 (by decide) rfl (fun c1 => ?_) (fun c1 => ?_)
  · rw [if_pos c1] at hv
    refine zj_iconst 33 X (v := 0) dX5_colour_32 (by decide) rfl ?_
    refine zj_istore_n 34 X (lv1 := [(0, .ref (a 0)), (1, .int (p0)), (2, .int (0))]) [1, 2, 0] dX5_colour_33 (by decide) rfl rfl ?_
    refine zj_iload_n 35 X 2 dX5_colour_34 rfl rfl ?_
    refine zj_if_eq 38 42 X dX5_colour_35 (by decide) rfl (fun _ => ?_) (fun c2 => absurd c2 (by decide))
    refine zj_iload_n 43 X 1 dX5_colour_42 rfl rfl ?_
    refine zj_bipush 45 X (v := 8) dX5_colour_43 (by decide) rfl ?_
    refine zj_idiv 46 X dX5_colour_45 (by decide) rfl ?_
    exact ze_i X Y hv dX5_colour_46
  · rw [if_neg c1] at hv
    refine zj_iload_n 9 X 1 dX5_colour_8 rfl rfl ?_
    refine zj_bipush 11 X (v := 8) dX5_colour_9 (by decide) rfl ?_
    refine zj_irem 12 X dX5_colour_11 (by decide) rfl ?_
    refine zj_bipush 14 X (v := 7) dX5_colour_12 (by decide) rfl ?_
    refine zj_icmp_eq 17 28 X dX5_colour_14 (by decide) rfl (fun c3 => ?_) (fun c3 => ?_)
    · rw [if_pos c3] at hv
      refine zj_iconst 29 X (v := 1) dX5_colour_28 (by decide) rfl ?_
      refine zj_goto 33 X dX5_colour_29 (by decide) ?_
      refine zj_istore_n 34 X (lv1 := [(0, .ref (a 0)), (1, .int (p0)), (2, .int (1))]) [1, 2, 0] dX5_colour_33 (by decide) rfl rfl ?_
      refine zj_iload_n 35 X 2 dX5_colour_34 rfl rfl ?_
      refine zj_if_eq 38 42 X dX5_colour_35 (by decide) rfl (fun c4 => absurd c4 (by decide)) (fun _ => ?_)
      refine zj_iconst 39 X (v := 4) dX5_colour_38 (by decide) rfl ?_
      refine zj_goto 46 X dX5_colour_39 (by decide) ?_
      exact ze_i X Y hv dX5_colour_46
    · rw [if_neg c3] at hv
      refine zj_iload_n 18 X 1 dX5_colour_17 rfl rfl ?_
      refine zj_bipush 20 X (v := 8) dX5_colour_18 (by decide) rfl ?_
      refine zj_idiv 21 X dX5_colour_20 (by decide) rfl ?_
      refine zj_aload_n 22 X 0 dX5_colour_21 rfl rfl ?_
      refine zg_RX5_64 25 X (w := zmI v 13) rfl dX5_colour_22 rfl ?_
      refine zj_icmp_ne 28 32 X dX5_colour_25 (by decide) rfl (fun c5 => ?_) (fun c5 => ?_)
      · rw [if_neg c5] at hv
        refine zj_iconst 33 X (v := 0) dX5_colour_32 (by decide) rfl ?_
        refine zj_istore_n 34 X (lv1 := [(0, .ref (a 0)), (1, .int (p0)), (2, .int (0))]) [1, 2, 0] dX5_colour_33 (by decide) rfl rfl ?_
        refine zj_iload_n 35 X 2 dX5_colour_34 rfl rfl ?_
        refine zj_if_eq 38 42 X dX5_colour_35 (by decide) rfl (fun _ => ?_) (fun c6 => absurd c6 (by decide))
        refine zj_iload_n 43 X 1 dX5_colour_42 rfl rfl ?_
        refine zj_bipush 45 X (v := 8) dX5_colour_43 (by decide) rfl ?_
        refine zj_idiv 46 X dX5_colour_45 (by decide) rfl ?_
        exact ze_i X Y hv dX5_colour_46
      · rw [if_pos c5] at hv
        refine zj_iconst 29 X (v := 1) dX5_colour_28 (by decide) rfl ?_
        refine zj_goto 33 X dX5_colour_29 (by decide) ?_
        refine zj_istore_n 34 X (lv1 := [(0, .ref (a 0)), (1, .int (p0)), (2, .int (1))]) [1, 2, 0] dX5_colour_33 (by decide) rfl rfl ?_
        refine zj_iload_n 35 X 2 dX5_colour_34 rfl rfl ?_
        refine zj_if_eq 38 42 X dX5_colour_35 (by decide) rfl (fun c7 => absurd c7 (by decide)) (fun _ => ?_)
        refine zj_iconst 39 X (v := 4) dX5_colour_38 (by decide) rfl ?_
        refine zj_goto 46 X dX5_colour_39 (by decide) ?_
        exact ze_i X Y hv dX5_colour_46
def zf_X5_height (v : zN) (p0 : Int32) : Int32 := if (zmI v 13) = 5 then (if 3 ≤ (p0 - p0 / 8 * 8) then (if (p0 - p0 / 8 * 8) = 5 then 3 else (if (p0 - p0 / 8 * 8) = 7 then 4 else (if (p0 - p0 / 8 * 8) = 3 then 5 else (if (p0 - p0 / 8 * 8) = 4 then 6 else 7)))) else p0 - p0 / 8 * 8) else (if (p0 - p0 / 8 * 8) = 7 then 7 + (p0 / 8) else p0 - p0 / 8 * 8)
abbrev zR_X5_height : Room := { frames := 0, cells := 0, slots := 0, locals := 0 }
set_option maxHeartbeats 4000000 in
set_option maxRecDepth 100000 in
theorem zc_X5_height {l : Launch} {D : va_G} {C : ClassId × ClassId} {a : Nat → Nat} {v : zN} {p0 : Int32} : zk_Mp l yX5_height cX5_height 3 (some .int) zR_X5_height [.ref (a 0), .int (p0)] (zM C a v) D C (vp_Si (fun r => r = zf_X5_height v p0)) := by
  refine zk_mp (by decide) (Nat.le_of_ble_eq_true rfl) ?_
  intro p e s m below meth c X Y
  generalize hv : zf_X5_height v p0 = V
  unfold zf_X5_height at hv
  show zJ _ _ _ _ _ _ _ _ _ _ _ _ _ _ _ _ _ 0 [(0, .ref (a 0)), (1, .int (p0))] []
  refine zj_iload_n 1 X 1 dX5_height_0 rfl rfl ?_
  refine zj_bipush 3 X (v := 8) dX5_height_1 (by decide) rfl ?_
  refine zj_irem 4 X dX5_height_3 (by decide) rfl ?_
  refine zj_istore_n 5 X (lv1 := [(0, .ref (a 0)), (1, .int (p0)), (2, .int (p0 - p0 / 8 * 8))]) [1, 2, 0] dX5_height_4 (by decide) rfl rfl ?_
  refine zj_aload_n 6 X 0 dX5_height_5 rfl rfl ?_
  refine zg_RX5_64 9 X (w := zmI v 13) rfl dX5_height_6 rfl ?_
  refine zj_iconst 10 X (v := 5) dX5_height_9 (by decide) rfl ?_
  refine zj_icmp_ne 13 63 X dX5_height_10 (by decide) rfl (fun c1 => ?_) (fun c1 => ?_)
  · rw [if_neg c1] at hv
    refine zj_iload_n 64 X 2 dX5_height_63 rfl rfl ?_
    refine zj_bipush 66 X (v := 7) dX5_height_64 (by decide) rfl ?_
    refine zj_icmp_ne 69 79 X dX5_height_66 (by decide) rfl (fun c2 => ?_) (fun c2 => ?_)
    · rw [if_neg c2] at hv
      refine zj_iload_n 80 X 2 dX5_height_79 rfl rfl ?_
      exact ze_i X Y hv dX5_height_80
    · rw [if_pos c2] at hv
      refine zj_bipush 71 X (v := 7) dX5_height_69 (by decide) rfl ?_
      refine zj_iload_n 72 X 1 dX5_height_71 rfl rfl ?_
      refine zj_bipush 74 X (v := 8) dX5_height_72 (by decide) rfl ?_
      refine zj_idiv 75 X dX5_height_74 (by decide) rfl ?_
      refine zj_iadd 76 X dX5_height_75 rfl ?_
      refine zj_goto 80 X dX5_height_76 (by decide) ?_
      exact ze_i X Y hv dX5_height_80
  · rw [if_pos c1] at hv
    refine zj_iload_n 14 X 2 dX5_height_13 rfl rfl ?_
    refine zj_iconst 15 X (v := 3) dX5_height_14 (by decide) rfl ?_
    refine zj_icmp_ge 18 22 X dX5_height_15 (by decide) rfl (fun c3 => ?_) (fun c3 => ?_)
    · rw [if_pos c3] at hv
      refine zj_iload_n 23 X 2 dX5_height_22 rfl rfl ?_
      refine zj_iconst 24 X (v := 5) dX5_height_23 (by decide) rfl ?_
      refine zj_icmp_ne 27 31 X dX5_height_24 (by decide) rfl (fun c4 => ?_) (fun c4 => ?_)
      · rw [if_neg c4] at hv
        refine zj_iload_n 32 X 2 dX5_height_31 rfl rfl ?_
        refine zj_bipush 34 X (v := 7) dX5_height_32 (by decide) rfl ?_
        refine zj_icmp_ne 37 41 X dX5_height_34 (by decide) rfl (fun c5 => ?_) (fun c5 => ?_)
        · rw [if_neg c5] at hv
          refine zj_iload_n 42 X 2 dX5_height_41 rfl rfl ?_
          refine zj_iconst 43 X (v := 3) dX5_height_42 (by decide) rfl ?_
          refine zj_icmp_ne 46 50 X dX5_height_43 (by decide) rfl (fun c6 => ?_) (fun c6 => ?_)
          · rw [if_neg c6] at hv
            refine zj_iload_n 51 X 2 dX5_height_50 rfl rfl ?_
            refine zj_iconst 52 X (v := 4) dX5_height_51 (by decide) rfl ?_
            refine zj_icmp_ne 55 60 X dX5_height_52 (by decide) rfl (fun c7 => ?_) (fun c7 => ?_)
            · rw [if_neg c7] at hv
              refine zj_bipush 62 X (v := 7) dX5_height_60 (by decide) rfl ?_
              exact ze_i X Y hv dX5_height_62
            · rw [if_pos c7] at hv
              refine zj_bipush 57 X (v := 6) dX5_height_55 (by decide) rfl ?_
              refine zj_goto 62 X dX5_height_57 (by decide) ?_
              exact ze_i X Y hv dX5_height_62
          · rw [if_pos c6] at hv
            refine zj_iconst 47 X (v := 5) dX5_height_46 (by decide) rfl ?_
            refine zj_goto 62 X dX5_height_47 (by decide) ?_
            exact ze_i X Y hv dX5_height_62
        · rw [if_pos c5] at hv
          refine zj_iconst 38 X (v := 4) dX5_height_37 (by decide) rfl ?_
          refine zj_goto 62 X dX5_height_38 (by decide) ?_
          exact ze_i X Y hv dX5_height_62
      · rw [if_pos c4] at hv
        refine zj_iconst 28 X (v := 3) dX5_height_27 (by decide) rfl ?_
        refine zj_goto 62 X dX5_height_28 (by decide) ?_
        exact ze_i X Y hv dX5_height_62
    · rw [if_neg c3] at hv
      refine zj_iload_n 19 X 2 dX5_height_18 rfl rfl ?_
      refine zj_goto 62 X dX5_height_19 (by decide) ?_
      exact ze_i X Y hv dX5_height_62
def zl_X5_open_lp (v : zN) : Nat → Nat → Int64 → Int64
  | 0, i, x1 => if (lg_cmp x1 0) = 0 then zmC v ((zmI v 3).toNatClampNeg) else x1
  | k + 1, i, x1 => zl_X5_open_lp v k (i + 1) (x1 ||| (if (if (zf_X5_has (zmC v ((zmI v 3).toNatClampNeg)) (nI i)) = 0 then (0 : Int32) else if (zmI v 17) ≤ 0 then (0 : Int32) else if (zf_X5_colour v (nI i)) = (zf_X5_colour v (zmR v 0)) then (1 : Int32) else 0) = 0 then (0 : Int64) else 1 <<< ((nI i).toInt64 &&& 63)))
def zf_X5_open (v : zN) : Int64 := zl_X5_open_lp v 32 0 0
abbrev zR_X5_open : Room := { frames := 1, cells := 0, slots := 0, locals := 22 }
set_option maxHeartbeats 4000000 in
set_option maxRecDepth 100000 in
theorem zc_X5_open {l : Launch} {D : va_G} {C : ClassId × ClassId} {a : Nat → Nat} {v : zN} (hT : vp_in (zmI v 3) 3) : zk_Mp l yX5_open cX5_open 5 (some .long) zR_X5_open [.ref (a 0)] (zM C a v) D C (vp_Sl (fun r => r = zf_X5_open v)) := by
  refine zk_mp (by decide) (Nat.le_of_ble_eq_true rfl) ?_
  intro p e s m below meth c X Y
  generalize hv : zf_X5_open v = V
  unfold zf_X5_open at hv
  show zJ _ _ _ _ _ _ _ _ _ _ _ _ _ _ _ _ _ 0 [(0, .ref (a 0))] []
  refine zj_lconst 1 X (v := 0) dX5_open_0 (by decide) rfl ?_
  refine zj_lstore_n 2 X (lv1 := [(0, .ref (a 0)), (1, .long (0))]) [1, 0] dX5_open_1 (by decide) rfl rfl ?_
  refine zj_iconst 3 X (v := 0) dX5_open_2 (by decide) rfl ?_
  refine zj_istore_n 4 X (lv1 := [(0, .ref (a 0)), (1, .long (0)), (3, .int (0))]) [1, 2, 0] dX5_open_3 (by decide) rfl rfl ?_
  have L1 : ∀ (k i : Nat) (x1 : Int64), i + k = 32 → zl_X5_open_lp v k i x1 = V → zJ p l e zR_X5_open s m ([.ref (a 0)] : List Value).toArray below meth c 0 0 (MQ below (vp_Sl (fun r => r = V)) ([.ref (a 0)] : List Value).toArray s 0 0 (fun _ => False)) D (zk_K0 s) 5 (zM C a v) 4 [(0, .ref (a 0)), (1, .long (x1)), (3, .int (nI i))] [] := by
    intro k
    induction k with
    | zero =>
      intro i x1 h1 hv
      rw [zl_X5_open_lp] at hv
      refine zj_iload_n 5 X 2 dX5_open_4 rfl rfl ?_
      refine zj_bipush 7 X (v := 32) dX5_open_5 (by decide) rfl ?_
      refine zj_icmp_ge 10 79 X dX5_open_7 (by decide) rfl (fun _ => ?_) (fun c2 => absurd (zge0 (N := 32) (by rfl) (by omega)) c2)
      refine zj_lload_n 80 X 1 dX5_open_79 rfl rfl ?_
      refine zj_lconst 81 X (v := 0) dX5_open_80 (by decide) rfl ?_
      refine zj_lcmp 82 X dX5_open_81 rfl ?_
      refine zj_if_ne 85 97 X dX5_open_82 (by decide) rfl (fun c3 => ?_) (fun c3 => ?_)
      · rw [if_neg c3] at hv
        refine zj_lload_n 98 X 1 dX5_open_97 rfl rfl ?_
        exact ze_l X Y hv dX5_open_98
      · rw [if_pos c3] at hv
        refine zj_aload_n 86 X 0 dX5_open_85 rfl rfl ?_
        refine zg_RX5_13 89 X dX5_open_86 rfl ?_
        refine zj_aload_n 90 X 0 dX5_open_89 rfl rfl ?_
        refine zg_RX5_97 93 X (w := zmI v 3) rfl dX5_open_90 rfl ?_
        refine zl_M_hands 94 X (w := zmC v ((zmI v 3).toNatClampNeg)) rfl hT dX5_open_93 rfl ?_
        refine zj_goto 98 X dX5_open_94 (by decide) ?_
        exact ze_l X Y hv dX5_open_98
    | succ k ih =>
      intro i x1 h1 hv
      rw [zl_X5_open_lp] at hv
      refine zj_iload_n 5 X 2 dX5_open_4 rfl rfl ?_
      refine zj_bipush 7 X (v := 32) dX5_open_5 (by decide) rfl ?_
      refine zj_icmp_ge 10 79 X dX5_open_7 (by decide) rfl (fun c4 => absurd c4 (zge (N := 32) (by rfl) (by omega) (by decide))) (fun _ => ?_)
      refine zj_aload_n 11 X 0 dX5_open_10 rfl rfl ?_
      refine zg_RX5_13 14 X dX5_open_11 rfl ?_
      refine zj_aload_n 15 X 0 dX5_open_14 rfl rfl ?_
      refine zg_RX5_97 18 X (w := zmI v 3) rfl dX5_open_15 rfl ?_
      refine zl_M_hands 19 X (w := zmC v ((zmI v 3).toNatClampNeg)) rfl hT dX5_open_18 rfl ?_
      refine zj_iload_n 20 X 2 dX5_open_19 rfl rfl ?_
      refine zc_i 23 (zr_S (As := [.long (zmC v ((zmI v 3).toNatClampNeg)), .int (nI i)]) (rest := []) X (zc_X5_has (l := l) (p0 := zmC v ((zmI v 3).toNatClampNeg)) (p1 := nI i)) zw_X5_120 zn_X5_has (zcR_of rfl) zs0 rfl (Nat.le_of_ble_eq_true rfl) dX5_open_20) rfl ?_
      refine zj_join 56 [(0, .ref (a 0)), (1, .long (x1)), (3, .int (nI i))] [.int (if (zf_X5_has (zmC v ((zmI v 3).toNatClampNeg)) (nI i)) = 0 then (0 : Int32) else if (zmI v 17) ≤ 0 then (0 : Int32) else if (zf_X5_colour v (nI i)) = (zf_X5_colour v (zmR v 0)) then (1 : Int32) else 0)] ?_ (fun J8 => ?_)
      · refine zj_istore 58 X (lv1 := [(0, .ref (a 0)), (1, .long (x1)), (3, .int (nI i)), (4, .int (if (zf_X5_has (zmC v ((zmI v 3).toNatClampNeg)) (nI i)) = 0 then (0 : Int32) else if (zmI v 17) ≤ 0 then (0 : Int32) else if (zf_X5_colour v (nI i)) = (zf_X5_colour v (zmR v 0)) then (1 : Int32) else 0))]) [1, 2, 3, 0] dX5_open_56 (by decide) rfl rfl ?_
        refine zj_lload_n 59 X 1 dX5_open_58 rfl rfl ?_
        refine zj_iload 61 X 3 dX5_open_59 rfl rfl ?_
        refine zj_join 71 [(0, .ref (a 0)), (1, .long (x1)), (3, .int (nI i)), (4, .int (if (zf_X5_has (zmC v ((zmI v 3).toNatClampNeg)) (nI i)) = 0 then (0 : Int32) else if (zmI v 17) ≤ 0 then (0 : Int32) else if (zf_X5_colour v (nI i)) = (zf_X5_colour v (zmR v 0)) then (1 : Int32) else 0))] [.long (if (if (zf_X5_has (zmC v ((zmI v 3).toNatClampNeg)) (nI i)) = 0 then (0 : Int32) else if (zmI v 17) ≤ 0 then (0 : Int32) else if (zf_X5_colour v (nI i)) = (zf_X5_colour v (zmR v 0)) then (1 : Int32) else 0) = 0 then (0 : Int64) else 1 <<< ((nI i).toInt64 &&& 63)), .long (x1)] ?_ (fun J10 => ?_)
        · refine zj_lor 72 X dX5_open_71 rfl ?_
          refine zj_lstore_n 73 X (lv1 := [(0, .ref (a 0)), (1, .long (x1 ||| (if (if (zf_X5_has (zmC v ((zmI v 3).toNatClampNeg)) (nI i)) = 0 then (0 : Int32) else if (zmI v 17) ≤ 0 then (0 : Int32) else if (zf_X5_colour v (nI i)) = (zf_X5_colour v (zmR v 0)) then (1 : Int32) else 0) = 0 then (0 : Int64) else 1 <<< ((nI i).toInt64 &&& 63)))), (3, .int (nI i)), (4, .int (if (zf_X5_has (zmC v ((zmI v 3).toNatClampNeg)) (nI i)) = 0 then (0 : Int32) else if (zmI v 17) ≤ 0 then (0 : Int32) else if (zf_X5_colour v (nI i)) = (zf_X5_colour v (zmR v 0)) then (1 : Int32) else 0))]) [1, 0, 2, 3] dX5_open_72 (by decide) rfl rfl ?_
          refine zj_iinc 76 X (v := nI (i + 1)) (lv1 := [(0, .ref (a 0)), (1, .long (x1 ||| (if (if (zf_X5_has (zmC v ((zmI v 3).toNatClampNeg)) (nI i)) = 0 then (0 : Int32) else if (zmI v 17) ≤ 0 then (0 : Int32) else if (zf_X5_colour v (nI i)) = (zf_X5_colour v (zmR v 0)) then (1 : Int32) else 0) = 0 then (0 : Int64) else 1 <<< ((nI i).toInt64 &&& 63)))), (3, .int (nI (i + 1))), (4, .int (if (zf_X5_has (zmC v ((zmI v 3).toNatClampNeg)) (nI i)) = 0 then (0 : Int32) else if (zmI v 17) ≤ 0 then (0 : Int32) else if (zf_X5_colour v (nI i)) = (zf_X5_colour v (zmR v 0)) then (1 : Int32) else 0))]) 2 [1, 2, 0, 3] dX5_open_73 rfl (zinc _) (by decide) rfl rfl ?_
          refine zj_goto 4 X dX5_open_76 (by decide) ?_
          refine zj_lv (lv1 := [(0, .ref (a 0)), (1, .long (x1 ||| (if (if (zf_X5_has (zmC v ((zmI v 3).toNatClampNeg)) (nI i)) = 0 then (0 : Int32) else if (zmI v 17) ≤ 0 then (0 : Int32) else if (zf_X5_colour v (nI i)) = (zf_X5_colour v (zmR v 0)) then (1 : Int32) else 0) = 0 then (0 : Int64) else 1 <<< ((nI i).toInt64 &&& 63)))), (3, .int (nI (i + 1)))]) [0, 1, 2] rfl ?_
          exact ih (i + 1) (x1 ||| (if (if (zf_X5_has (zmC v ((zmI v 3).toNatClampNeg)) (nI i)) = 0 then (0 : Int32) else if (zmI v 17) ≤ 0 then (0 : Int32) else if (zf_X5_colour v (nI i)) = (zf_X5_colour v (zmR v 0)) then (1 : Int32) else 0) = 0 then (0 : Int64) else 1 <<< ((nI i).toInt64 &&& 63))) (by omega)  hv
        · refine zj_if_eq 64 70 X dX5_open_61 (by decide) rfl (fun c11 => ?_) (fun c11 => ?_)
          · refine zj_lconst 71 X (v := 0) dX5_open_70 (by decide) rfl ?_
            simpa only [if_pos c11] using J10
          · refine zj_lconst 65 X (v := 1) dX5_open_64 (by decide) rfl ?_
            refine zj_iload_n 66 X 2 dX5_open_65 rfl rfl ?_
            refine zj_lshl 67 X dX5_open_66 rfl rfl ?_
            refine zj_goto 71 X dX5_open_67 (by decide) ?_
            simpa only [if_neg c11] using J10
      · refine zj_if_eq 26 55 X dX5_open_23 (by decide) rfl (fun c12 => ?_) (fun c12 => ?_)
        · refine zj_iconst 56 X (v := 0) dX5_open_55 (by decide) rfl ?_
          simpa only [if_pos c12] using J8
        · refine zj_aload_n 27 X 0 dX5_open_26 rfl rfl ?_
          refine zg_RX5_74 30 X (w := zmI v 17) rfl dX5_open_27 rfl ?_
          refine zj_if_le 33 55 X dX5_open_30 (by decide) rfl (fun c13 => ?_) (fun c13 => ?_)
          · refine zj_iconst 56 X (v := 0) dX5_open_55 (by decide) rfl ?_
            simpa only [if_neg c12, if_pos c13] using J8
          · refine zj_aload_n 34 X 0 dX5_open_33 rfl rfl ?_
            refine zj_iload_n 35 X 2 dX5_open_34 rfl rfl ?_
            refine zc_i 38 (zr_V (As := [.int (nI i)]) (rest := []) X (zc_X5_colour (l := l) (p0 := nI i) (v := v)) zw_X5_145 zn_X5_colour (zcR_of rfl) zO_M zsI rfl (Nat.le_of_ble_eq_true rfl) dX5_open_35) rfl ?_
            refine zj_aload_n 39 X 0 dX5_open_38 rfl rfl ?_
            refine zj_aload_n 40 X 0 dX5_open_39 rfl rfl ?_
            refine zg_RX5_20 43 X dX5_open_40 rfl ?_
            refine zj_iconst 44 X (v := 0) dX5_open_43 (by decide) rfl ?_
            refine zl_M_trick 45 X (w := zmR v 0) rfl (vp_in_iff.mpr (by decide)) dX5_open_44 rfl ?_
            refine zc_i 48 (zr_V (As := [.int (zmR v 0)]) (rest := [.int (zf_X5_colour v (nI i))]) X (zc_X5_colour (l := l) (p0 := zmR v 0) (v := v)) zw_X5_145 zn_X5_colour (zcR_of rfl) zO_M zsI rfl (Nat.le_of_ble_eq_true rfl) dX5_open_45) rfl ?_
            refine zj_icmp_ne 51 55 X dX5_open_48 (by decide) rfl (fun c14 => ?_) (fun c14 => ?_)
            · refine zj_iconst 56 X (v := 0) dX5_open_55 (by decide) rfl ?_
              simpa only [if_neg c12, if_neg c13, if_neg c14] using J8
            · refine zj_iconst 52 X (v := 1) dX5_open_51 (by decide) rfl ?_
              refine zj_goto 56 X dX5_open_52 (by decide) ?_
              simpa only [if_neg c12, if_neg c13, if_pos c14] using J8
  exact L1 32 0 0 (by decide)  hv
def zf_X5_playable (v : zN) : Int64 × zN := if (zmI v 2) = 5 then (zf_X5_open (zmI1 v 0 0), zmI1 v 0 0) else (0, zmI1 v 0 1)
abbrev zR_X5_playable : Room := { frames := 2, cells := 0, slots := 0, locals := 46 }
set_option maxHeartbeats 4000000 in
set_option maxRecDepth 100000 in
theorem zc_X5_playable {l : Launch} {D : va_G} {C : ClassId × ClassId} {a : Nat → Nat} {v : zN} (hT : vp_in (zmI v 3) 3) : zk_Mm l yX5_playable cX5_playable 1 (some .long) zR_X5_playable [.ref (a 0)] (zM C a v) D C (fun A => va_Ql (fun r u' => (r, u') = zf_X5_playable v) (fun u' t => va_P D vwCl (zM C a u') t.heap) A) := by
  refine zk_mm (by decide) (Nat.le_of_ble_eq_true rfl) ?_
  intro p e s m below meth c A X Y hD hA
  generalize hv : zf_X5_playable v = V
  unfold zf_X5_playable at hv
  show zJ _ _ _ _ _ _ _ _ _ _ _ _ _ _ _ _ _ 0 [(0, .ref (a 0))] []
  refine zj_aload_n 1 X 0 dX5_playable_0 rfl rfl ?_
  refine zj_aload_n 2 X 0 dX5_playable_1 rfl rfl ?_
  refine zg_RX5_94 5 X (w := zmI v 2) rfl dX5_playable_2 rfl ?_
  refine zj_iconst 6 X (v := 5) dX5_playable_5 (by decide) rfl ?_
  refine zj_icmp_ne 9 13 X dX5_playable_6 (by decide) rfl (fun c1 => ?_) (fun c1 => ?_)
  · rw [if_neg c1] at hv
    refine zj_iconst 14 X (v := 1) dX5_playable_13 (by decide) rfl ?_
    refine zc_im 17 (Wd := zM C a) (zr_Vm (As := [.int (1)]) (rest := []) X (zc_X5_holds (l := l) (p0 := 1) (v := v)) zw_X5_100 zn_X5_holds (zcR_of rfl) zO_M (zD_M _ hD) hA rfl (Nat.le_of_ble_eq_true rfl) dX5_playable_14) (zD_M _ hD) hA rfl ?_
    show zJ _ _ _ _ _ _ _ _ _ _ _ _ _ _ _ _ (zM C a (zmI1 v 0 1)) 17 [(0, .ref (a 0))] [.int (0)]
    refine zj_if_eq 20 27 X dX5_playable_17 (by decide) rfl (fun _ => ?_) (fun c2 => absurd c2 (by decide))
    refine zj_lconst 28 X (v := 0) dX5_playable_27 (by decide) rfl ?_
    exact ze_lm (Wd := zM C a) (u := zmI1 v 0 1) X Y hv dX5_playable_28
  · rw [if_pos c1] at hv
    refine zj_iconst 10 X (v := 0) dX5_playable_9 (by decide) rfl ?_
    refine zj_goto 14 X dX5_playable_10 (by decide) ?_
    refine zc_im 17 (Wd := zM C a) (zr_Vm (As := [.int (0)]) (rest := []) X (zc_X5_holds (l := l) (p0 := 0) (v := v)) zw_X5_100 zn_X5_holds (zcR_of rfl) zO_M (zD_M _ hD) hA rfl (Nat.le_of_ble_eq_true rfl) dX5_playable_14) (zD_M _ hD) hA rfl ?_
    show zJ _ _ _ _ _ _ _ _ _ _ _ _ _ _ _ _ (zM C a (zmI1 v 0 0)) 17 [(0, .ref (a 0))] [.int (1)]
    refine zj_if_eq 20 27 X dX5_playable_17 (by decide) rfl (fun c3 => absurd c3 (by decide)) (fun _ => ?_)
    refine zj_aload_n 21 X 0 dX5_playable_20 rfl rfl ?_
    refine zc_l 24 (zr_V (As := []) (rest := []) X (zc_X5_open (l := l) (v := zmI1 v 0 0) (hT := hT)) zw_X5_148 zn_X5_open (zcR_of rfl) zO_M zsI rfl (Nat.le_of_ble_eq_true rfl) dX5_playable_21) rfl ?_
    refine zj_goto 28 X dX5_playable_24 (by decide) ?_
    exact ze_lm (Wd := zM C a) (u := zmI1 v 0 0) X Y hv dX5_playable_28
def zf_X5_isOver (v : zN) (p0 : Int32) (p1 : Int32) : Int32 := if (zf_X5_colour v p0) = (zf_X5_colour v p1) then (if (zf_X5_height v p0) ≤ (zf_X5_height v p1) then 0 else 1) else (if (zf_X5_colour v p0) = 4 then 1 else 0)
abbrev zR_X5_isOver : Room := { frames := 1, cells := 0, slots := 0, locals := 22 }
set_option maxHeartbeats 4000000 in
set_option maxRecDepth 100000 in
theorem zc_X5_isOver {l : Launch} {D : va_G} {C : ClassId × ClassId} {a : Nat → Nat} {v : zN} {p0 : Int32} {p1 : Int32} : zk_Mp l yX5_isOver cX5_isOver 3 (some .boolean) zR_X5_isOver [.ref (a 0), .int (p0), .int (p1)] (zM C a v) D C (vp_Si (fun r => r = zf_X5_isOver v p0 p1)) := by
  refine zk_mp (by decide) (Nat.le_of_ble_eq_true rfl) ?_
  intro p e s m below meth c X Y
  generalize hv : zf_X5_isOver v p0 p1 = V
  unfold zf_X5_isOver at hv
  show zJ _ _ _ _ _ _ _ _ _ _ _ _ _ _ _ _ _ 0 [(0, .ref (a 0)), (1, .int (p0)), (2, .int (p1))] []
  refine zj_aload_n 1 X 0 dX5_isOver_0 rfl rfl ?_
  refine zj_iload_n 2 X 1 dX5_isOver_1 rfl rfl ?_
  refine zc_i 5 (zr_V (As := [.int (p0)]) (rest := []) X (zc_X5_colour (l := l) (p0 := p0) (v := v)) zw_X5_145 zn_X5_colour (zcR_of rfl) zO_M zsI rfl (Nat.le_of_ble_eq_true rfl) dX5_isOver_2) rfl ?_
  refine zj_aload_n 6 X 0 dX5_isOver_5 rfl rfl ?_
  refine zj_iload_n 7 X 2 dX5_isOver_6 rfl rfl ?_
  refine zc_i 10 (zr_V (As := [.int (p1)]) (rest := [.int (zf_X5_colour v p0)]) X (zc_X5_colour (l := l) (p0 := p1) (v := v)) zw_X5_145 zn_X5_colour (zcR_of rfl) zO_M zsI rfl (Nat.le_of_ble_eq_true rfl) dX5_isOver_7) rfl ?_
  refine zj_icmp_ne 13 34 X dX5_isOver_10 (by decide) rfl (fun c1 => ?_) (fun c1 => ?_)
  · rw [if_neg c1] at hv
    refine zj_aload_n 35 X 0 dX5_isOver_34 rfl rfl ?_
    refine zj_iload_n 36 X 1 dX5_isOver_35 rfl rfl ?_
    refine zc_i 39 (zr_V (As := [.int (p0)]) (rest := []) X (zc_X5_colour (l := l) (p0 := p0) (v := v)) zw_X5_145 zn_X5_colour (zcR_of rfl) zO_M zsI rfl (Nat.le_of_ble_eq_true rfl) dX5_isOver_36) rfl ?_
    refine zj_iconst 40 X (v := 4) dX5_isOver_39 (by decide) rfl ?_
    refine zj_icmp_ne 43 47 X dX5_isOver_40 (by decide) rfl (fun c2 => ?_) (fun c2 => ?_)
    · rw [if_neg c2] at hv
      refine zj_iconst 48 X (v := 0) dX5_isOver_47 (by decide) rfl ?_
      exact ze_z X Y (by decide) hv dX5_isOver_48
    · rw [if_pos c2] at hv
      refine zj_iconst 44 X (v := 1) dX5_isOver_43 (by decide) rfl ?_
      refine zj_goto 48 X dX5_isOver_44 (by decide) ?_
      exact ze_z X Y (by decide) hv dX5_isOver_48
  · rw [if_pos c1] at hv
    refine zj_aload_n 14 X 0 dX5_isOver_13 rfl rfl ?_
    refine zj_iload_n 15 X 1 dX5_isOver_14 rfl rfl ?_
    refine zc_i 18 (zr_V (As := [.int (p0)]) (rest := []) X (zc_X5_height (l := l) (p0 := p0) (v := v)) zw_X5_152 zn_X5_height (zcR_of rfl) zO_M zsI rfl (Nat.le_of_ble_eq_true rfl) dX5_isOver_15) rfl ?_
    refine zj_aload_n 19 X 0 dX5_isOver_18 rfl rfl ?_
    refine zj_iload_n 20 X 2 dX5_isOver_19 rfl rfl ?_
    refine zc_i 23 (zr_V (As := [.int (p1)]) (rest := [.int (zf_X5_height v p0)]) X (zc_X5_height (l := l) (p0 := p1) (v := v)) zw_X5_152 zn_X5_height (zcR_of rfl) zO_M zsI rfl (Nat.le_of_ble_eq_true rfl) dX5_isOver_20) rfl ?_
    refine zj_icmp_le 26 30 X dX5_isOver_23 (by decide) rfl (fun c3 => ?_) (fun c3 => ?_)
    · rw [if_pos c3] at hv
      refine zj_iconst 31 X (v := 0) dX5_isOver_30 (by decide) rfl ?_
      refine zj_goto 48 X dX5_isOver_31 (by decide) ?_
      exact ze_z X Y (by decide) hv dX5_isOver_48
    · rw [if_neg c3] at hv
      refine zj_iconst 27 X (v := 1) dX5_isOver_26 (by decide) rfl ?_
      refine zj_goto 48 X dX5_isOver_27 (by decide) ?_
      exact ze_z X Y (by decide) hv dX5_isOver_48
def zf_X5_hand (v : zN) (p0 : Int32) : Int64 × zN := if (zf_X5_in p0 0 2) = 0 then (0, zmI1 v 0 1) else (zmC v p0.toNatClampNeg, zmI1 v 0 0)
abbrev zR_X5_hand : Room := { frames := 1, cells := 0, slots := 0, locals := 22 }
set_option maxHeartbeats 4000000 in
set_option maxRecDepth 100000 in
theorem zc_X5_hand {l : Launch} {D : va_G} {C : ClassId × ClassId} {a : Nat → Nat} {v : zN} {p0 : Int32} : zk_Mm l yX5_hand cX5_hand 2 (some .long) zR_X5_hand [.ref (a 0), .int (p0)] (zM C a v) D C (fun A => va_Ql (fun r u' => (r, u') = zf_X5_hand v p0) (fun u' t => va_P D vwCl (zM C a u') t.heap) A) := by
  refine zk_mm (by decide) (Nat.le_of_ble_eq_true rfl) ?_
  intro p e s m below meth c A X Y hD hA
  generalize hv : zf_X5_hand v p0 = V
  unfold zf_X5_hand at hv
  show zJ _ _ _ _ _ _ _ _ _ _ _ _ _ _ _ _ _ 0 [(0, .ref (a 0)), (1, .int (p0))] []
  refine zj_aload_n 1 X 0 dX5_hand_0 rfl rfl ?_
  refine zj_iload_n 2 X 1 dX5_hand_1 rfl rfl ?_
  refine zj_iconst 3 X (v := 0) dX5_hand_2 (by decide) rfl ?_
  refine zj_iconst 4 X (v := 2) dX5_hand_3 (by decide) rfl ?_
  refine zc_i 7 (zr_S (As := [.int (p0), .int (0), .int (2)]) (rest := [.ref (a 0)]) X (zc_X5_in (l := l) (p0 := p0) (p1 := 0) (p2 := 2)) zw_X5_104 zn_X5_in (zcR_of rfl) zs0 rfl (Nat.le_of_ble_eq_true rfl) dX5_hand_4) rfl ?_
  refine zj_if_eq 10 14 X dX5_hand_7 (by decide) rfl (fun c1 => ?_) (fun c1 => ?_)
  · rw [if_pos c1] at hv
    refine zj_iconst 15 X (v := 1) dX5_hand_14 (by decide) rfl ?_
    refine zc_im 18 (Wd := zM C a) (zr_Vm (As := [.int (1)]) (rest := []) X (zc_X5_holds (l := l) (p0 := 1) (v := v)) zw_X5_100 zn_X5_holds (zcR_of rfl) zO_M (zD_M _ hD) hA rfl (Nat.le_of_ble_eq_true rfl) dX5_hand_15) (zD_M _ hD) hA rfl ?_
    show zJ _ _ _ _ _ _ _ _ _ _ _ _ _ _ _ _ (zM C a (zmI1 v 0 1)) 18 [(0, .ref (a 0)), (1, .int (p0))] [.int (0)]
    refine zj_if_eq 21 30 X dX5_hand_18 (by decide) rfl (fun _ => ?_) (fun c2 => absurd c2 (by decide))
    refine zj_lconst 31 X (v := 0) dX5_hand_30 (by decide) rfl ?_
    exact ze_lm (Wd := zM C a) (u := zmI1 v 0 1) X Y hv dX5_hand_31
  · rw [if_neg c1] at hv
    refine zj_iconst 11 X (v := 0) dX5_hand_10 (by decide) rfl ?_
    refine zj_goto 15 X dX5_hand_11 (by decide) ?_
    refine zc_im 18 (Wd := zM C a) (zr_Vm (As := [.int (0)]) (rest := []) X (zc_X5_holds (l := l) (p0 := 0) (v := v)) zw_X5_100 zn_X5_holds (zcR_of rfl) zO_M (zD_M _ hD) hA rfl (Nat.le_of_ble_eq_true rfl) dX5_hand_15) (zD_M _ hD) hA rfl ?_
    show zJ _ _ _ _ _ _ _ _ _ _ _ _ _ _ _ _ (zM C a (zmI1 v 0 0)) 18 [(0, .ref (a 0)), (1, .int (p0))] [.int (1)]
    refine zj_if_eq 21 30 X dX5_hand_18 (by decide) rfl (fun c3 => absurd c3 (by decide)) (fun _ => ?_)
    refine zj_aload_n 22 X 0 dX5_hand_21 rfl rfl ?_
    refine zg_RX5_13 25 X dX5_hand_22 rfl ?_
    refine zj_iload_n 26 X 1 dX5_hand_25 rfl rfl ?_
    refine zl_M_hands 27 X (w := zmC v p0.toNatClampNeg) rfl (zin02 c1) dX5_hand_26 rfl ?_
    refine zj_goto 31 X dX5_hand_27 (by decide) ?_
    exact ze_lm (Wd := zM C a) (u := zmI1 v 0 0) X Y hv dX5_hand_31
def zf_X5_inTrick (v : zN) (p0 : Int32) : Int32 × zN := if (zf_X5_in p0 0 2) = 0 then (0, zmI1 v 0 1) else (if (zmI v 17) ≤ p0 then ((-1), zmI1 v 0 0) else (zmR v p0.toNatClampNeg, zmI1 v 0 0))
abbrev zR_X5_inTrick : Room := { frames := 1, cells := 0, slots := 0, locals := 22 }
set_option maxHeartbeats 4000000 in
set_option maxRecDepth 100000 in
theorem zc_X5_inTrick {l : Launch} {D : va_G} {C : ClassId × ClassId} {a : Nat → Nat} {v : zN} {p0 : Int32} : zk_Mm l yX5_inTrick cX5_inTrick 2 (some .int) zR_X5_inTrick [.ref (a 0), .int (p0)] (zM C a v) D C (fun A => va_Qi (fun r u' => (r, u') = zf_X5_inTrick v p0) (fun u' t => va_P D vwCl (zM C a u') t.heap) A) := by
  refine zk_mm (by decide) (Nat.le_of_ble_eq_true rfl) ?_
  intro p e s m below meth c A X Y hD hA
  generalize hv : zf_X5_inTrick v p0 = V
  unfold zf_X5_inTrick at hv
  show zJ _ _ _ _ _ _ _ _ _ _ _ _ _ _ _ _ _ 0 [(0, .ref (a 0)), (1, .int (p0))] []
  refine zj_aload_n 1 X 0 dX5_inTrick_0 rfl rfl ?_
  refine zj_iload_n 2 X 1 dX5_inTrick_1 rfl rfl ?_
  refine zj_iconst 3 X (v := 0) dX5_inTrick_2 (by decide) rfl ?_
  refine zj_iconst 4 X (v := 2) dX5_inTrick_3 (by decide) rfl ?_
  refine zc_i 7 (zr_S (As := [.int (p0), .int (0), .int (2)]) (rest := [.ref (a 0)]) X (zc_X5_in (l := l) (p0 := p0) (p1 := 0) (p2 := 2)) zw_X5_104 zn_X5_in (zcR_of rfl) zs0 rfl (Nat.le_of_ble_eq_true rfl) dX5_inTrick_4) rfl ?_
  refine zj_if_eq 10 14 X dX5_inTrick_7 (by decide) rfl (fun c1 => ?_) (fun c1 => ?_)
  · rw [if_pos c1] at hv
    refine zj_iconst 15 X (v := 1) dX5_inTrick_14 (by decide) rfl ?_
    refine zc_im 18 (Wd := zM C a) (zr_Vm (As := [.int (1)]) (rest := []) X (zc_X5_holds (l := l) (p0 := 1) (v := v)) zw_X5_100 zn_X5_holds (zcR_of rfl) zO_M (zD_M _ hD) hA rfl (Nat.le_of_ble_eq_true rfl) dX5_inTrick_15) (zD_M _ hD) hA rfl ?_
    show zJ _ _ _ _ _ _ _ _ _ _ _ _ _ _ _ _ (zM C a (zmI1 v 0 1)) 18 [(0, .ref (a 0)), (1, .int (p0))] [.int (0)]
    refine zj_if_ne 21 25 X dX5_inTrick_18 (by decide) rfl (fun c2 => absurd c2 (by decide)) (fun _ => ?_)
    refine zj_iconst 22 X (v := 0) dX5_inTrick_21 (by decide) rfl ?_
    refine zj_goto 43 X dX5_inTrick_22 (by decide) ?_
    exact ze_im (Wd := zM C a) (u := zmI1 v 0 1) X Y hv dX5_inTrick_43
  · rw [if_neg c1] at hv
    refine zj_iconst 11 X (v := 0) dX5_inTrick_10 (by decide) rfl ?_
    refine zj_goto 15 X dX5_inTrick_11 (by decide) ?_
    refine zc_im 18 (Wd := zM C a) (zr_Vm (As := [.int (0)]) (rest := []) X (zc_X5_holds (l := l) (p0 := 0) (v := v)) zw_X5_100 zn_X5_holds (zcR_of rfl) zO_M (zD_M _ hD) hA rfl (Nat.le_of_ble_eq_true rfl) dX5_inTrick_15) (zD_M _ hD) hA rfl ?_
    show zJ _ _ _ _ _ _ _ _ _ _ _ _ _ _ _ _ (zM C a (zmI1 v 0 0)) 18 [(0, .ref (a 0)), (1, .int (p0))] [.int (1)]
    refine zj_if_ne 21 25 X dX5_inTrick_18 (by decide) rfl (fun _ => ?_) (fun c3 => absurd c3 (by decide))
    refine zj_iload_n 26 X 1 dX5_inTrick_25 rfl rfl ?_
    refine zj_aload_n 27 X 0 dX5_inTrick_26 rfl rfl ?_
    refine zg_RX5_74 30 X (w := zmI v 17) rfl dX5_inTrick_27 rfl ?_
    refine zj_icmp_ge 33 42 X dX5_inTrick_30 (by decide) rfl (fun c4 => ?_) (fun c4 => ?_)
    · rw [if_pos c4] at hv
      refine zj_iconst 43 X (v := (-1)) dX5_inTrick_42 (by decide) rfl ?_
      exact ze_im (Wd := zM C a) (u := zmI1 v 0 0) X Y hv dX5_inTrick_43
    · rw [if_neg c4] at hv
      refine zj_aload_n 34 X 0 dX5_inTrick_33 rfl rfl ?_
      refine zg_RX5_20 37 X dX5_inTrick_34 rfl ?_
      refine zj_iload_n 38 X 1 dX5_inTrick_37 rfl rfl ?_
      refine zl_M_trick 39 X (w := zmR v p0.toNatClampNeg) rfl (zin02 c1) dX5_inTrick_38 rfl ?_
      refine zj_goto 43 X dX5_inTrick_39 (by decide) ?_
      exact ze_im (Wd := zM C a) (u := zmI1 v 0 0) X Y hv dX5_inTrick_43
def zf_X5_of5 (v : zN) (p0 : Int32) : Int32 × zN := if (zf_X5_in p0 0 2) = 0 then (0, zmI1 v 0 1) else (zmP v p0.toNatClampNeg, zmI1 v 0 0)
abbrev zR_X5_of5 : Room := { frames := 1, cells := 0, slots := 0, locals := 22 }
set_option maxHeartbeats 4000000 in
set_option maxRecDepth 100000 in
theorem zc_X5_of5 {l : Launch} {D : va_G} {C : ClassId × ClassId} {a : Nat → Nat} {v : zN} {p0 : Int32} : zk_Mm l yX5_of cX5_of 3 (some .int) zR_X5_of5 [.ref (a 0), .int (p0), .ref (a 5)] (zM C a v) D C (fun A => va_Qi (fun r u' => (r, u') = zf_X5_of5 v p0) (fun u' t => va_P D vwCl (zM C a u') t.heap) A) := by
  refine zk_mm (by decide) (Nat.le_of_ble_eq_true rfl) ?_
  intro p e s m below meth c A X Y hD hA
  generalize hv : zf_X5_of5 v p0 = V
  unfold zf_X5_of5 at hv
  show zJ _ _ _ _ _ _ _ _ _ _ _ _ _ _ _ _ _ 0 [(0, .ref (a 0)), (1, .int (p0)), (2, .ref (a 5))] []
  refine zj_aload_n 1 X 0 dX5_of_0 rfl rfl ?_
  refine zj_iload_n 2 X 1 dX5_of_1 rfl rfl ?_
  refine zj_iconst 3 X (v := 0) dX5_of_2 (by decide) rfl ?_
  refine zj_iconst 4 X (v := 2) dX5_of_3 (by decide) rfl ?_
  refine zc_i 7 (zr_S (As := [.int (p0), .int (0), .int (2)]) (rest := [.ref (a 0)]) X (zc_X5_in (l := l) (p0 := p0) (p1 := 0) (p2 := 2)) zw_X5_104 zn_X5_in (zcR_of rfl) zs0 rfl (Nat.le_of_ble_eq_true rfl) dX5_of_4) rfl ?_
  refine zj_if_eq 10 14 X dX5_of_7 (by decide) rfl (fun c1 => ?_) (fun c1 => ?_)
  · rw [if_pos c1] at hv
    refine zj_iconst 15 X (v := 1) dX5_of_14 (by decide) rfl ?_
    refine zc_im 18 (Wd := zM C a) (zr_Vm (As := [.int (1)]) (rest := []) X (zc_X5_holds (l := l) (p0 := 1) (v := v)) zw_X5_100 zn_X5_holds (zcR_of rfl) zO_M (zD_M _ hD) hA rfl (Nat.le_of_ble_eq_true rfl) dX5_of_15) (zD_M _ hD) hA rfl ?_
    show zJ _ _ _ _ _ _ _ _ _ _ _ _ _ _ _ _ (zM C a (zmI1 v 0 1)) 18 [(0, .ref (a 0)), (1, .int (p0)), (2, .ref (a 5))] [.int (0)]
    refine zj_if_eq 21 27 X dX5_of_18 (by decide) rfl (fun _ => ?_) (fun c2 => absurd c2 (by decide))
    refine zj_iconst 28 X (v := 0) dX5_of_27 (by decide) rfl ?_
    exact ze_im (Wd := zM C a) (u := zmI1 v 0 1) X Y hv dX5_of_28
  · rw [if_neg c1] at hv
    refine zj_iconst 11 X (v := 0) dX5_of_10 (by decide) rfl ?_
    refine zj_goto 15 X dX5_of_11 (by decide) ?_
    refine zc_im 18 (Wd := zM C a) (zr_Vm (As := [.int (0)]) (rest := []) X (zc_X5_holds (l := l) (p0 := 0) (v := v)) zw_X5_100 zn_X5_holds (zcR_of rfl) zO_M (zD_M _ hD) hA rfl (Nat.le_of_ble_eq_true rfl) dX5_of_15) (zD_M _ hD) hA rfl ?_
    show zJ _ _ _ _ _ _ _ _ _ _ _ _ _ _ _ _ (zM C a (zmI1 v 0 0)) 18 [(0, .ref (a 0)), (1, .int (p0)), (2, .ref (a 5))] [.int (1)]
    refine zj_if_eq 21 27 X dX5_of_18 (by decide) rfl (fun c3 => absurd c3 (by decide)) (fun _ => ?_)
    refine zj_aload_n 22 X 2 dX5_of_21 rfl rfl ?_
    refine zj_iload_n 23 X 1 dX5_of_22 rfl rfl ?_
    refine zl_M_points 24 X (w := zmP v p0.toNatClampNeg) rfl (zin02 c1) dX5_of_23 rfl ?_
    refine zj_goto 28 X dX5_of_24 (by decide) ?_
    exact ze_im (Wd := zM C a) (u := zmI1 v 0 0) X Y hv dX5_of_28
def zf_X5_of6 (v : zN) (p0 : Int32) : Int32 × zN := if (zf_X5_in p0 0 2) = 0 then (0, zmI1 v 0 1) else (zmT v p0.toNatClampNeg, zmI1 v 0 0)
abbrev zR_X5_of6 : Room := { frames := 1, cells := 0, slots := 0, locals := 22 }
set_option maxHeartbeats 4000000 in
set_option maxRecDepth 100000 in
theorem zc_X5_of6 {l : Launch} {D : va_G} {C : ClassId × ClassId} {a : Nat → Nat} {v : zN} {p0 : Int32} : zk_Mm l yX5_of cX5_of 3 (some .int) zR_X5_of6 [.ref (a 0), .int (p0), .ref (a 6)] (zM C a v) D C (fun A => va_Qi (fun r u' => (r, u') = zf_X5_of6 v p0) (fun u' t => va_P D vwCl (zM C a u') t.heap) A) := by
  refine zk_mm (by decide) (Nat.le_of_ble_eq_true rfl) ?_
  intro p e s m below meth c A X Y hD hA
  generalize hv : zf_X5_of6 v p0 = V
  unfold zf_X5_of6 at hv
  show zJ _ _ _ _ _ _ _ _ _ _ _ _ _ _ _ _ _ 0 [(0, .ref (a 0)), (1, .int (p0)), (2, .ref (a 6))] []
  refine zj_aload_n 1 X 0 dX5_of_0 rfl rfl ?_
  refine zj_iload_n 2 X 1 dX5_of_1 rfl rfl ?_
  refine zj_iconst 3 X (v := 0) dX5_of_2 (by decide) rfl ?_
  refine zj_iconst 4 X (v := 2) dX5_of_3 (by decide) rfl ?_
  refine zc_i 7 (zr_S (As := [.int (p0), .int (0), .int (2)]) (rest := [.ref (a 0)]) X (zc_X5_in (l := l) (p0 := p0) (p1 := 0) (p2 := 2)) zw_X5_104 zn_X5_in (zcR_of rfl) zs0 rfl (Nat.le_of_ble_eq_true rfl) dX5_of_4) rfl ?_
  refine zj_if_eq 10 14 X dX5_of_7 (by decide) rfl (fun c1 => ?_) (fun c1 => ?_)
  · rw [if_pos c1] at hv
    refine zj_iconst 15 X (v := 1) dX5_of_14 (by decide) rfl ?_
    refine zc_im 18 (Wd := zM C a) (zr_Vm (As := [.int (1)]) (rest := []) X (zc_X5_holds (l := l) (p0 := 1) (v := v)) zw_X5_100 zn_X5_holds (zcR_of rfl) zO_M (zD_M _ hD) hA rfl (Nat.le_of_ble_eq_true rfl) dX5_of_15) (zD_M _ hD) hA rfl ?_
    show zJ _ _ _ _ _ _ _ _ _ _ _ _ _ _ _ _ (zM C a (zmI1 v 0 1)) 18 [(0, .ref (a 0)), (1, .int (p0)), (2, .ref (a 6))] [.int (0)]
    refine zj_if_eq 21 27 X dX5_of_18 (by decide) rfl (fun _ => ?_) (fun c2 => absurd c2 (by decide))
    refine zj_iconst 28 X (v := 0) dX5_of_27 (by decide) rfl ?_
    exact ze_im (Wd := zM C a) (u := zmI1 v 0 1) X Y hv dX5_of_28
  · rw [if_neg c1] at hv
    refine zj_iconst 11 X (v := 0) dX5_of_10 (by decide) rfl ?_
    refine zj_goto 15 X dX5_of_11 (by decide) ?_
    refine zc_im 18 (Wd := zM C a) (zr_Vm (As := [.int (0)]) (rest := []) X (zc_X5_holds (l := l) (p0 := 0) (v := v)) zw_X5_100 zn_X5_holds (zcR_of rfl) zO_M (zD_M _ hD) hA rfl (Nat.le_of_ble_eq_true rfl) dX5_of_15) (zD_M _ hD) hA rfl ?_
    show zJ _ _ _ _ _ _ _ _ _ _ _ _ _ _ _ _ (zM C a (zmI1 v 0 0)) 18 [(0, .ref (a 0)), (1, .int (p0)), (2, .ref (a 6))] [.int (1)]
    refine zj_if_eq 21 27 X dX5_of_18 (by decide) rfl (fun c3 => absurd c3 (by decide)) (fun _ => ?_)
    refine zj_aload_n 22 X 2 dX5_of_21 rfl rfl ?_
    refine zj_iload_n 23 X 1 dX5_of_22 rfl rfl ?_
    refine zl_M_tricks 24 X (w := zmT v p0.toNatClampNeg) rfl (zin02 c1) dX5_of_23 rfl ?_
    refine zj_goto 28 X dX5_of_24 (by decide) ?_
    exact ze_im (Wd := zM C a) (u := zmI1 v 0 0) X Y hv dX5_of_28
def zf_X5_of7 (v : zN) (p0 : Int32) : Int32 × zN := if (zf_X5_in p0 0 2) = 0 then (0, zmI1 v 0 1) else (zmO v p0.toNatClampNeg, zmI1 v 0 0)
abbrev zR_X5_of7 : Room := { frames := 1, cells := 0, slots := 0, locals := 22 }
set_option maxHeartbeats 4000000 in
set_option maxRecDepth 100000 in
theorem zc_X5_of7 {l : Launch} {D : va_G} {C : ClassId × ClassId} {a : Nat → Nat} {v : zN} {p0 : Int32} : zk_Mm l yX5_of cX5_of 3 (some .int) zR_X5_of7 [.ref (a 0), .int (p0), .ref (a 7)] (zM C a v) D C (fun A => va_Qi (fun r u' => (r, u') = zf_X5_of7 v p0) (fun u' t => va_P D vwCl (zM C a u') t.heap) A) := by
  refine zk_mm (by decide) (Nat.le_of_ble_eq_true rfl) ?_
  intro p e s m below meth c A X Y hD hA
  generalize hv : zf_X5_of7 v p0 = V
  unfold zf_X5_of7 at hv
  show zJ _ _ _ _ _ _ _ _ _ _ _ _ _ _ _ _ _ 0 [(0, .ref (a 0)), (1, .int (p0)), (2, .ref (a 7))] []
  refine zj_aload_n 1 X 0 dX5_of_0 rfl rfl ?_
  refine zj_iload_n 2 X 1 dX5_of_1 rfl rfl ?_
  refine zj_iconst 3 X (v := 0) dX5_of_2 (by decide) rfl ?_
  refine zj_iconst 4 X (v := 2) dX5_of_3 (by decide) rfl ?_
  refine zc_i 7 (zr_S (As := [.int (p0), .int (0), .int (2)]) (rest := [.ref (a 0)]) X (zc_X5_in (l := l) (p0 := p0) (p1 := 0) (p2 := 2)) zw_X5_104 zn_X5_in (zcR_of rfl) zs0 rfl (Nat.le_of_ble_eq_true rfl) dX5_of_4) rfl ?_
  refine zj_if_eq 10 14 X dX5_of_7 (by decide) rfl (fun c1 => ?_) (fun c1 => ?_)
  · rw [if_pos c1] at hv
    refine zj_iconst 15 X (v := 1) dX5_of_14 (by decide) rfl ?_
    refine zc_im 18 (Wd := zM C a) (zr_Vm (As := [.int (1)]) (rest := []) X (zc_X5_holds (l := l) (p0 := 1) (v := v)) zw_X5_100 zn_X5_holds (zcR_of rfl) zO_M (zD_M _ hD) hA rfl (Nat.le_of_ble_eq_true rfl) dX5_of_15) (zD_M _ hD) hA rfl ?_
    show zJ _ _ _ _ _ _ _ _ _ _ _ _ _ _ _ _ (zM C a (zmI1 v 0 1)) 18 [(0, .ref (a 0)), (1, .int (p0)), (2, .ref (a 7))] [.int (0)]
    refine zj_if_eq 21 27 X dX5_of_18 (by decide) rfl (fun _ => ?_) (fun c2 => absurd c2 (by decide))
    refine zj_iconst 28 X (v := 0) dX5_of_27 (by decide) rfl ?_
    exact ze_im (Wd := zM C a) (u := zmI1 v 0 1) X Y hv dX5_of_28
  · rw [if_neg c1] at hv
    refine zj_iconst 11 X (v := 0) dX5_of_10 (by decide) rfl ?_
    refine zj_goto 15 X dX5_of_11 (by decide) ?_
    refine zc_im 18 (Wd := zM C a) (zr_Vm (As := [.int (0)]) (rest := []) X (zc_X5_holds (l := l) (p0 := 0) (v := v)) zw_X5_100 zn_X5_holds (zcR_of rfl) zO_M (zD_M _ hD) hA rfl (Nat.le_of_ble_eq_true rfl) dX5_of_15) (zD_M _ hD) hA rfl ?_
    show zJ _ _ _ _ _ _ _ _ _ _ _ _ _ _ _ _ (zM C a (zmI1 v 0 0)) 18 [(0, .ref (a 0)), (1, .int (p0)), (2, .ref (a 7))] [.int (1)]
    refine zj_if_eq 21 27 X dX5_of_18 (by decide) rfl (fun c3 => absurd c3 (by decide)) (fun _ => ?_)
    refine zj_aload_n 22 X 2 dX5_of_21 rfl rfl ?_
    refine zj_iload_n 23 X 1 dX5_of_22 rfl rfl ?_
    refine zl_M_scores 24 X (w := zmO v p0.toNatClampNeg) rfl (zin02 c1) dX5_of_23 rfl ?_
    refine zj_goto 28 X dX5_of_24 (by decide) ?_
    exact ze_im (Wd := zM C a) (u := zmI1 v 0 0) X Y hv dX5_of_28
def zf_X5_points (v : zN) (p0 : Int32) : Int32 × zN := ((zf_X5_of5 v p0).1, (zf_X5_of5 v p0).2)
abbrev zR_X5_points : Room := { frames := 2, cells := 0, slots := 0, locals := 44 }
set_option maxHeartbeats 4000000 in
set_option maxRecDepth 100000 in
theorem zc_X5_points {l : Launch} {D : va_G} {C : ClassId × ClassId} {a : Nat → Nat} {v : zN} {p0 : Int32} : zk_Mm l yX5_points cX5_points 2 (some .int) zR_X5_points [.ref (a 0), .int (p0)] (zM C a v) D C (fun A => va_Qi (fun r u' => (r, u') = zf_X5_points v p0) (fun u' t => va_P D vwCl (zM C a u') t.heap) A) := by
  refine zk_mm (by decide) (Nat.le_of_ble_eq_true rfl) ?_
  intro p e s m below meth c A X Y hD hA
  generalize hv : zf_X5_points v p0 = V
  unfold zf_X5_points at hv
  show zJ _ _ _ _ _ _ _ _ _ _ _ _ _ _ _ _ _ 0 [(0, .ref (a 0)), (1, .int (p0))] []
  refine zj_aload_n 1 X 0 dX5_points_0 rfl rfl ?_
  refine zj_iload_n 2 X 1 dX5_points_1 rfl rfl ?_
  refine zj_aload_n 3 X 0 dX5_points_2 rfl rfl ?_
  refine zg_RX5_23 6 X dX5_points_3 rfl ?_
  refine zc_im 9 (Wd := zM C a) (zr_Vm (As := [.int (p0), .ref (a 5)]) (rest := []) X (zc_X5_of5 (l := l) (p0 := p0) (v := v)) zw_X5_164 zn_X5_of (zcR_of rfl) zO_M (zD_M _ hD) hA rfl (Nat.le_of_ble_eq_true rfl) dX5_points_6) (zD_M _ hD) hA rfl ?_
  exact ze_im (Wd := zM C a) (u := (zf_X5_of5 v p0).2) X Y hv dX5_points_9
def zf_X5_tricks (v : zN) (p0 : Int32) : Int32 × zN := ((zf_X5_of6 v p0).1, (zf_X5_of6 v p0).2)
abbrev zR_X5_tricks : Room := { frames := 2, cells := 0, slots := 0, locals := 44 }
set_option maxHeartbeats 4000000 in
set_option maxRecDepth 100000 in
theorem zc_X5_tricks {l : Launch} {D : va_G} {C : ClassId × ClassId} {a : Nat → Nat} {v : zN} {p0 : Int32} : zk_Mm l yX5_tricks cX5_tricks 2 (some .int) zR_X5_tricks [.ref (a 0), .int (p0)] (zM C a v) D C (fun A => va_Qi (fun r u' => (r, u') = zf_X5_tricks v p0) (fun u' t => va_P D vwCl (zM C a u') t.heap) A) := by
  refine zk_mm (by decide) (Nat.le_of_ble_eq_true rfl) ?_
  intro p e s m below meth c A X Y hD hA
  generalize hv : zf_X5_tricks v p0 = V
  unfold zf_X5_tricks at hv
  show zJ _ _ _ _ _ _ _ _ _ _ _ _ _ _ _ _ _ 0 [(0, .ref (a 0)), (1, .int (p0))] []
  refine zj_aload_n 1 X 0 dX5_tricks_0 rfl rfl ?_
  refine zj_iload_n 2 X 1 dX5_tricks_1 rfl rfl ?_
  refine zj_aload_n 3 X 0 dX5_tricks_2 rfl rfl ?_
  refine zg_RX5_26 6 X dX5_tricks_3 rfl ?_
  refine zc_im 9 (Wd := zM C a) (zr_Vm (As := [.int (p0), .ref (a 6)]) (rest := []) X (zc_X5_of6 (l := l) (p0 := p0) (v := v)) zw_X5_164 zn_X5_of (zcR_of rfl) zO_M (zD_M _ hD) hA rfl (Nat.le_of_ble_eq_true rfl) dX5_tricks_6) (zD_M _ hD) hA rfl ?_
  exact ze_im (Wd := zM C a) (u := (zf_X5_of6 v p0).2) X Y hv dX5_tricks_9
def zf_X5_score (v : zN) (p0 : Int32) : Int32 × zN := ((zf_X5_of7 v p0).1, (zf_X5_of7 v p0).2)
abbrev zR_X5_score : Room := { frames := 2, cells := 0, slots := 0, locals := 44 }
set_option maxHeartbeats 4000000 in
set_option maxRecDepth 100000 in
theorem zc_X5_score {l : Launch} {D : va_G} {C : ClassId × ClassId} {a : Nat → Nat} {v : zN} {p0 : Int32} : zk_Mm l yX5_score cX5_score 2 (some .int) zR_X5_score [.ref (a 0), .int (p0)] (zM C a v) D C (fun A => va_Qi (fun r u' => (r, u') = zf_X5_score v p0) (fun u' t => va_P D vwCl (zM C a u') t.heap) A) := by
  refine zk_mm (by decide) (Nat.le_of_ble_eq_true rfl) ?_
  intro p e s m below meth c A X Y hD hA
  generalize hv : zf_X5_score v p0 = V
  unfold zf_X5_score at hv
  show zJ _ _ _ _ _ _ _ _ _ _ _ _ _ _ _ _ _ 0 [(0, .ref (a 0)), (1, .int (p0))] []
  refine zj_aload_n 1 X 0 dX5_score_0 rfl rfl ?_
  refine zj_iload_n 2 X 1 dX5_score_1 rfl rfl ?_
  refine zj_aload_n 3 X 0 dX5_score_2 rfl rfl ?_
  refine zg_RX5_29 6 X dX5_score_3 rfl ?_
  refine zc_im 9 (Wd := zM C a) (zr_Vm (As := [.int (p0), .ref (a 7)]) (rest := []) X (zc_X5_of7 (l := l) (p0 := p0) (v := v)) zw_X5_164 zn_X5_of (zcR_of rfl) zO_M (zD_M _ hD) hA rfl (Nat.le_of_ble_eq_true rfl) dX5_score_6) (zD_M _ hD) hA rfl ?_
  exact ze_im (Wd := zM C a) (u := (zf_X5_of7 v p0).2) X Y hv dX5_score_9
