def zf_X4_refuseNoPlayer (u : zU) (p0 : Int32) : Nat × zU := if p0 < 0 then (3, u) else (if p0 < 3 then (0, u) else (3, u))
abbrev zR_X4_refuseNoPlayer : Room := { frames := 6, cells := 1, slots := 6, locals := 90 }
set_option maxHeartbeats 4000000 in
set_option maxRecDepth 100000 in
theorem zc_X4_refuseNoPlayer {l : Launch} {D : va_G} {C : ClassId × ClassId} {a : Nat → Nat} {u : zU} {p0 : Int32} (hfl : l.stackTraces = false) : zk_Mt l yX4_refuseNoPlayer cX4_refuseNoPlayer 1 none zR_X4_refuseNoPlayer [.int (p0)] (zS C a u) D C (fun A => va_Qv (fun u' => (0, u') = zf_X4_refuseNoPlayer u p0) (fun u' t => va_P D vwCl (zS C a u') t.heap) A) (zXE (zf_X4_refuseNoPlayer u p0).1) := by
  refine zk_mt (by decide) (Nat.le_of_ble_eq_true rfl) ?_
  intro p e s m below meth c A X Y hnot hD hA
  generalize hv : zf_X4_refuseNoPlayer u p0 = V
  unfold zf_X4_refuseNoPlayer at hv
  show zJ _ _ _ _ _ _ _ _ _ _ _ _ _ _ _ _ _ 0 [(0, .int (p0))] []
  refine zj_iload_n 1 X 0 dX4_refuseNoPlayer_0 rfl rfl ?_
  refine zj_if_lt 4 9 X dX4_refuseNoPlayer_1 (by decide) rfl (fun c1 => ?_) (fun c1 => ?_)
  · rw [if_pos c1] at hv
    exact zx_throw (text := "there is no such player") rfl rfl X Y.2 hfl zx_fit3 zx_cl3 zx_in3 zx_st232 (zx_hat X zx_a3 zx_b3) zx_g3 hnot (zXE.mk hv (by decide)) ⟨Nat.le_of_ble_eq_true rfl, Nat.le_of_ble_eq_true rfl, Nat.le_of_ble_eq_true rfl, Nat.le_of_ble_eq_true rfl⟩ dX4_refuseNoPlayer_9 dX4_refuseNoPlayer_12 dX4_refuseNoPlayer_13 dX4_refuseNoPlayer_15 dX4_refuseNoPlayer_18 zsI
  · rw [if_neg c1] at hv
    refine zj_iload_n 5 X 0 dX4_refuseNoPlayer_4 rfl rfl ?_
    refine zj_iconst 6 X (v := 3) dX4_refuseNoPlayer_5 (by decide) rfl ?_
    refine zj_icmp_lt 9 19 X dX4_refuseNoPlayer_6 (by decide) rfl (fun c2 => ?_) (fun c2 => ?_)
    · rw [if_pos c2] at hv
      exact ze_vt (Wd := zS C a) (u := u) (by decide) (by decide) X Y hv dX4_refuseNoPlayer_19
    · rw [if_neg c2] at hv
      exact zx_throw (text := "there is no such player") rfl rfl X Y.2 hfl zx_fit3 zx_cl3 zx_in3 zx_st232 (zx_hat X zx_a3 zx_b3) zx_g3 hnot (zXE.mk hv (by decide)) ⟨Nat.le_of_ble_eq_true rfl, Nat.le_of_ble_eq_true rfl, Nat.le_of_ble_eq_true rfl, Nat.le_of_ble_eq_true rfl⟩ dX4_refuseNoPlayer_9 dX4_refuseNoPlayer_12 dX4_refuseNoPlayer_13 dX4_refuseNoPlayer_15 dX4_refuseNoPlayer_18 zsI
theorem zrnp (u : zU) (x : Int32) : (zf_X4_refuseNoPlayer u x).2 = u := by
  unfold zf_X4_refuseNoPlayer
  split
  · rfl
  · split <;> rfl
def zf_X4_playerAfter (p0 : Int32) : Int32 := if p0 < 2 then p0 + 1 else 0
abbrev zR_X4_playerAfter : Room := { frames := 0, cells := 0, slots := 0, locals := 0 }
set_option maxHeartbeats 4000000 in
set_option maxRecDepth 100000 in
theorem zc_X4_playerAfter {l : Launch} {D : va_G} {C : ClassId × ClassId} {p0 : Int32} : zk_Mp l yX4_playerAfter cX4_playerAfter 1 (some .int) zR_X4_playerAfter [.int (p0)] [] D C (vp_Si (fun r => r = zf_X4_playerAfter p0)) := by
  refine zk_mp (by decide) (Nat.le_of_ble_eq_true rfl) ?_
  intro p e s m below meth c X Y
  generalize hv : zf_X4_playerAfter p0 = V
  unfold zf_X4_playerAfter at hv
  show zJ _ _ _ _ _ _ _ _ _ _ _ _ _ _ _ _ _ 0 [(0, .int (p0))] []
  refine zj_iload_n 1 X 0 dX4_playerAfter_0 rfl rfl ?_
  refine zj_iconst 2 X (v := 2) dX4_playerAfter_1 (by decide) rfl ?_
  refine zj_icmp_lt 5 9 X dX4_playerAfter_2 (by decide) rfl (fun c1 => ?_) (fun c1 => ?_)
  · rw [if_pos c1] at hv
    refine zj_iload_n 10 X 0 dX4_playerAfter_9 rfl rfl ?_
    refine zj_iconst 11 X (v := 1) dX4_playerAfter_10 (by decide) rfl ?_
    refine zj_iadd 12 X dX4_playerAfter_11 rfl ?_
    exact ze_i X Y hv dX4_playerAfter_12
  · rw [if_neg c1] at hv
    refine zj_iconst 6 X (v := 0) dX4_playerAfter_5 (by decide) rfl ?_
    refine zj_goto 12 X dX4_playerAfter_6 (by decide) ?_
    exact ze_i X Y hv dX4_playerAfter_12
def zf_X4_seat (u : zU) (p0 : Int32) : Nat := if p0 = 0 then 0 else (if p0 = 1 then 1 else 2)
abbrev zR_X4_seat : Room := { frames := 0, cells := 0, slots := 0, locals := 0 }
set_option maxHeartbeats 4000000 in
set_option maxRecDepth 100000 in
theorem zc_X4_seat {l : Launch} {D : va_G} {C : ClassId × ClassId} {a : Nat → Nat} {u : zU} {p0 : Int32} : zk_Mp l yX4_seat cX4_seat 2 (some (.object "SkatMill$Seat")) zR_X4_seat [.ref (a 0), .int (p0)] (zS C a u) D C (va_Sr (fun r => r = zf_X4_seat u p0) (fun k => .ref (a (1 + k)))) := by
  refine zk_mp (by decide) (Nat.le_of_ble_eq_true rfl) ?_
  intro p e s m below meth c X Y
  generalize hv : zf_X4_seat u p0 = V
  unfold zf_X4_seat at hv
  show zJ _ _ _ _ _ _ _ _ _ _ _ _ _ _ _ _ _ 0 [(0, .ref (a 0)), (1, .int (p0))] []
  refine zj_iload_n 1 X 1 dX4_seat_0 rfl rfl ?_
  refine zj_if_ne 4 9 X dX4_seat_1 (by decide) rfl (fun c1 => ?_) (fun c1 => ?_)
  · rw [if_neg c1] at hv
    refine zj_iload_n 10 X 1 dX4_seat_9 rfl rfl ?_
    refine zj_iconst 11 X (v := 1) dX4_seat_10 (by decide) rfl ?_
    refine zj_icmp_ne 14 21 X dX4_seat_11 (by decide) rfl (fun c2 => ?_) (fun c2 => ?_)
    · rw [if_neg c2] at hv
      refine zj_aload_n 22 X 0 dX4_seat_21 rfl rfl ?_
      refine zg_RX4_19 25 X dX4_seat_22 rfl ?_
      exact ze_r (x := 2) (ad := fun k => a (1 + k)) (cn := "SkatMill$Seat") X Y hv dX4_seat_25
    · rw [if_pos c2] at hv
      refine zj_aload_n 15 X 0 dX4_seat_14 rfl rfl ?_
      refine zg_RX4_16 18 X dX4_seat_15 rfl ?_
      refine zj_goto 25 X dX4_seat_18 (by decide) ?_
      exact ze_r (x := 1) (ad := fun k => a (1 + k)) (cn := "SkatMill$Seat") X Y hv dX4_seat_25
  · rw [if_pos c1] at hv
    refine zj_aload_n 5 X 0 dX4_seat_4 rfl rfl ?_
    refine zg_RX4_10 8 X dX4_seat_5 rfl ?_
    exact ze_r (x := 0) (ad := fun k => a (1 + k)) (cn := "SkatMill$Seat") X Y hv dX4_seat_8
theorem zseat_lt (u : zU) (x : Int32) : zf_X4_seat u x < 3 := by
  unfold zf_X4_seat
  split
  · decide
  · split <;> decide
def zf_X4_isCard (p0 : Int32) : Int32 := if p0 < 0 then 0 else (if 32 ≤ p0 then 0 else 1)
abbrev zR_X4_isCard : Room := { frames := 0, cells := 0, slots := 0, locals := 0 }
set_option maxHeartbeats 4000000 in
set_option maxRecDepth 100000 in
theorem zc_X4_isCard {l : Launch} {D : va_G} {C : ClassId × ClassId} {p0 : Int32} : zk_Mp l yX4_isCard cX4_isCard 1 (some .boolean) zR_X4_isCard [.int (p0)] [] D C (vp_Si (fun r => r = zf_X4_isCard p0)) := by
  refine zk_mp (by decide) (Nat.le_of_ble_eq_true rfl) ?_
  intro p e s m below meth c X Y
  generalize hv : zf_X4_isCard p0 = V
  unfold zf_X4_isCard at hv
  show zJ _ _ _ _ _ _ _ _ _ _ _ _ _ _ _ _ _ 0 [(0, .int (p0))] []
  refine zj_iload_n 1 X 0 dX4_isCard_0 rfl rfl ?_
  refine zj_if_lt 4 14 X dX4_isCard_1 (by decide) rfl (fun c1 => ?_) (fun c1 => ?_)
  · rw [if_pos c1] at hv
    refine zj_iconst 15 X (v := 0) dX4_isCard_14 (by decide) rfl ?_
    exact ze_z X Y (by decide) hv dX4_isCard_15
  · rw [if_neg c1] at hv
    refine zj_iload_n 5 X 0 dX4_isCard_4 rfl rfl ?_
    refine zj_bipush 7 X (v := 32) dX4_isCard_5 (by decide) rfl ?_
    refine zj_icmp_ge 10 14 X dX4_isCard_7 (by decide) rfl (fun c2 => ?_) (fun c2 => ?_)
    · rw [if_pos c2] at hv
      refine zj_iconst 15 X (v := 0) dX4_isCard_14 (by decide) rfl ?_
      exact ze_z X Y (by decide) hv dX4_isCard_15
    · rw [if_neg c2] at hv
      refine zj_iconst 11 X (v := 1) dX4_isCard_10 (by decide) rfl ?_
      refine zj_goto 15 X dX4_isCard_11 (by decide) ?_
      exact ze_z X Y (by decide) hv dX4_isCard_15
def zf_X4_startBidding (u : zU) (p0 : Int32) (p1 : Int32) : zU := zuI1 (zuI1 (zuI1 (zuI1 u 8 p0) 9 p1) 6 0) 7 p0
abbrev zR_X4_startBidding : Room := { frames := 0, cells := 0, slots := 0, locals := 0 }
set_option maxHeartbeats 4000000 in
set_option maxRecDepth 100000 in
theorem zc_X4_startBidding {l : Launch} {D : va_G} {C : ClassId × ClassId} {a : Nat → Nat} {u : zU} {p0 : Int32} {p1 : Int32} : zk_Mm l yX4_startBidding cX4_startBidding 3 none zR_X4_startBidding [.ref (a 0), .int (p0), .int (p1)] (zS C a u) D C (fun A => va_Qv (fun u' => u' = zf_X4_startBidding u p0 p1) (fun u' t => va_P D vwCl (zS C a u') t.heap) A) := by
  refine zk_mm (by decide) (Nat.le_of_ble_eq_true rfl) ?_
  intro p e s m below meth c A X Y hD hA
  generalize hv : zf_X4_startBidding u p0 p1 = V
  unfold zf_X4_startBidding at hv
  show zJ _ _ _ _ _ _ _ _ _ _ _ _ _ _ _ _ _ 0 [(0, .ref (a 0)), (1, .int (p0)), (2, .int (p1))] []
  refine zj_aload_n 1 X 0 dX4_startBidding_0 rfl rfl ?_
  refine zj_iload_n 2 X 1 dX4_startBidding_1 rfl rfl ?_
  refine zp_RX4_77 5 X (zD_S _ hD) dX4_startBidding_2 rfl ?_
  refine zj_aload_n 6 X 0 dX4_startBidding_5 rfl rfl ?_
  refine zj_iload_n 7 X 2 dX4_startBidding_6 rfl rfl ?_
  refine zp_RX4_74 10 X (zD_S _ hD) dX4_startBidding_7 rfl ?_
  refine zj_aload_n 11 X 0 dX4_startBidding_10 rfl rfl ?_
  refine zj_iconst 12 X (v := 0) dX4_startBidding_11 (by decide) rfl ?_
  refine zp_RX4_52 15 X (zD_S _ hD) dX4_startBidding_12 rfl ?_
  refine zj_aload_n 16 X 0 dX4_startBidding_15 rfl rfl ?_
  refine zj_iload_n 17 X 1 dX4_startBidding_16 rfl rfl ?_
  refine zp_RX4_55 20 X (zD_S _ hD) dX4_startBidding_17 rfl ?_
  exact ze_vm (Wd := zS C a) (u := zuI1 (zuI1 (zuI1 (zuI1 u 8 p0) 9 p1) 6 0) 7 p0) X Y hv dX4_startBidding_20
def zf_X4_makeDeclarer (u : zU) (p0 : Int32) : zU := zuI1 (zuI1 (zuI1 u 11 p0) 6 2) 7 p0
abbrev zR_X4_makeDeclarer : Room := { frames := 0, cells := 0, slots := 0, locals := 0 }
set_option maxHeartbeats 4000000 in
set_option maxRecDepth 100000 in
theorem zc_X4_makeDeclarer {l : Launch} {D : va_G} {C : ClassId × ClassId} {a : Nat → Nat} {u : zU} {p0 : Int32} : zk_Mm l yX4_makeDeclarer cX4_makeDeclarer 2 none zR_X4_makeDeclarer [.ref (a 0), .int (p0)] (zS C a u) D C (fun A => va_Qv (fun u' => u' = zf_X4_makeDeclarer u p0) (fun u' t => va_P D vwCl (zS C a u') t.heap) A) := by
  refine zk_mm (by decide) (Nat.le_of_ble_eq_true rfl) ?_
  intro p e s m below meth c A X Y hD hA
  generalize hv : zf_X4_makeDeclarer u p0 = V
  unfold zf_X4_makeDeclarer at hv
  show zJ _ _ _ _ _ _ _ _ _ _ _ _ _ _ _ _ _ 0 [(0, .ref (a 0)), (1, .int (p0))] []
  refine zj_aload_n 1 X 0 dX4_makeDeclarer_0 rfl rfl ?_
  refine zj_iload_n 2 X 1 dX4_makeDeclarer_1 rfl rfl ?_
  refine zp_RX4_98 5 X (zD_S _ hD) dX4_makeDeclarer_2 rfl ?_
  refine zj_aload_n 6 X 0 dX4_makeDeclarer_5 rfl rfl ?_
  refine zj_iconst 7 X (v := 2) dX4_makeDeclarer_6 (by decide) rfl ?_
  refine zp_RX4_52 10 X (zD_S _ hD) dX4_makeDeclarer_7 rfl ?_
  refine zj_aload_n 11 X 0 dX4_makeDeclarer_10 rfl rfl ?_
  refine zj_iload_n 12 X 1 dX4_makeDeclarer_11 rfl rfl ?_
  refine zp_RX4_55 15 X (zD_S _ hD) dX4_makeDeclarer_12 rfl ?_
  exact ze_vm (Wd := zS C a) (u := zuI1 (zuI1 (zuI1 u 11 p0) 6 2) 7 p0) X Y hv dX4_makeDeclarer_15
def zf_X4_isExtraPossible (p0 : Int32) (p1 : Int32) (p2 : Int32) : Int32 := if p1 = 0 then 1 else (if p0 = 5 then (if p1 = 3 then 1 else 0) else p2)
abbrev zR_X4_isExtraPossible : Room := { frames := 0, cells := 0, slots := 0, locals := 0 }
set_option maxHeartbeats 4000000 in
set_option maxRecDepth 100000 in
theorem zc_X4_isExtraPossible {l : Launch} {D : va_G} {C : ClassId × ClassId} {p0 : Int32} {p1 : Int32} {p2 : Int32} (hb : p2 = 0 ∨ p2 = 1) : zk_Mp l yX4_isExtraPossible cX4_isExtraPossible 3 (some .boolean) zR_X4_isExtraPossible [.int (p0), .int (p1), .int (p2)] [] D C (vp_Si (fun r => r = zf_X4_isExtraPossible p0 p1 p2)) := by
  refine zk_mp (by decide) (Nat.le_of_ble_eq_true rfl) ?_
  intro p e s m below meth c X Y
  generalize hv : zf_X4_isExtraPossible p0 p1 p2 = V
  unfold zf_X4_isExtraPossible at hv
  show zJ _ _ _ _ _ _ _ _ _ _ _ _ _ _ _ _ _ 0 [(0, .int (p0)), (1, .int (p1)), (2, .int (p2))] []
  refine zj_iload_n 1 X 1 dX4_isExtraPossible_0 rfl rfl ?_
  refine zj_if_ne 4 6 X dX4_isExtraPossible_1 (by decide) rfl (fun c1 => ?_) (fun c1 => ?_)
  · rw [if_neg c1] at hv
    refine zj_iload_n 7 X 0 dX4_isExtraPossible_6 rfl rfl ?_
    refine zj_iconst 8 X (v := 5) dX4_isExtraPossible_7 (by decide) rfl ?_
    refine zj_icmp_ne 11 24 X dX4_isExtraPossible_8 (by decide) rfl (fun c2 => ?_) (fun c2 => ?_)
    · rw [if_neg c2] at hv
      refine zj_iload_n 25 X 2 dX4_isExtraPossible_24 rfl rfl ?_
      exact ze_z X Y hb hv dX4_isExtraPossible_25
    · rw [if_pos c2] at hv
      refine zj_iload_n 12 X 1 dX4_isExtraPossible_11 rfl rfl ?_
      refine zj_iconst 13 X (v := 3) dX4_isExtraPossible_12 (by decide) rfl ?_
      refine zj_icmp_ne 16 20 X dX4_isExtraPossible_13 (by decide) rfl (fun c3 => ?_) (fun c3 => ?_)
      · rw [if_neg c3] at hv
        refine zj_iconst 21 X (v := 0) dX4_isExtraPossible_20 (by decide) rfl ?_
        refine zj_goto 25 X dX4_isExtraPossible_21 (by decide) ?_
        exact ze_z X Y (by decide) hv dX4_isExtraPossible_25
      · rw [if_pos c3] at hv
        refine zj_iconst 17 X (v := 1) dX4_isExtraPossible_16 (by decide) rfl ?_
        refine zj_goto 25 X dX4_isExtraPossible_17 (by decide) ?_
        exact ze_z X Y (by decide) hv dX4_isExtraPossible_25
  · rw [if_pos c1] at hv
    refine zj_iconst 5 X (v := 1) dX4_isExtraPossible_4 (by decide) rfl ?_
    exact ze_z X Y (by decide) hv dX4_isExtraPossible_5
def zf_X4_startPlay (u : zU) (p0 : Int32) : zU := zuI1 (zuI1 (zuI1 u 12 p0) 6 5) 7 (zuI u 5)
abbrev zR_X4_startPlay : Room := { frames := 0, cells := 0, slots := 0, locals := 0 }
set_option maxHeartbeats 4000000 in
set_option maxRecDepth 100000 in
theorem zc_X4_startPlay {l : Launch} {D : va_G} {C : ClassId × ClassId} {a : Nat → Nat} {u : zU} {p0 : Int32} : zk_Mm l yX4_startPlay cX4_startPlay 2 none zR_X4_startPlay [.ref (a 0), .int (p0)] (zS C a u) D C (fun A => va_Qv (fun u' => u' = zf_X4_startPlay u p0) (fun u' t => va_P D vwCl (zS C a u') t.heap) A) := by
  refine zk_mm (by decide) (Nat.le_of_ble_eq_true rfl) ?_
  intro p e s m below meth c A X Y hD hA
  generalize hv : zf_X4_startPlay u p0 = V
  unfold zf_X4_startPlay at hv
  show zJ _ _ _ _ _ _ _ _ _ _ _ _ _ _ _ _ _ 0 [(0, .ref (a 0)), (1, .int (p0))] []
  refine zj_aload_n 1 X 0 dX4_startPlay_0 rfl rfl ?_
  refine zj_iload_n 2 X 1 dX4_startPlay_1 rfl rfl ?_
  refine zp_RX4_158 5 X (zD_S _ hD) dX4_startPlay_2 rfl ?_
  refine zj_aload_n 6 X 0 dX4_startPlay_5 rfl rfl ?_
  refine zj_iconst 7 X (v := 5) dX4_startPlay_6 (by decide) rfl ?_
  refine zp_RX4_52 10 X (zD_S _ hD) dX4_startPlay_7 rfl ?_
  refine zj_aload_n 11 X 0 dX4_startPlay_10 rfl rfl ?_
  refine zj_aload_n 12 X 0 dX4_startPlay_11 rfl rfl ?_
  refine zg_RX4_33 15 X (w := zuI u 5) rfl dX4_startPlay_12 rfl ?_
  refine zp_RX4_55 18 X (zD_S _ hD) dX4_startPlay_15 rfl ?_
  exact ze_vm (Wd := zS C a) (u := zuI1 (zuI1 (zuI1 u 12 p0) 6 5) 7 (zuI u 5)) X Y hv dX4_startPlay_18
def zf_X4_goOnBidding (u : zU) (p0 : Int32) : zU := if (zuI u 8) = (zf_X4_playerAfter (zf_X4_playerAfter (zuI u 5))) then (if (zuI u 10) ≤ 0 then (zf_X4_startBidding u p0 (-1)) else (zf_X4_makeDeclarer u p0)) else (zf_X4_startBidding u (zf_X4_playerAfter (zf_X4_playerAfter (zuI u 5))) p0)
abbrev zR_X4_goOnBidding : Room := { frames := 1, cells := 0, slots := 0, locals := 22 }
set_option maxHeartbeats 4000000 in
set_option maxRecDepth 100000 in
theorem zc_X4_goOnBidding {l : Launch} {D : va_G} {C : ClassId × ClassId} {a : Nat → Nat} {u : zU} {p0 : Int32} : zk_Mm l yX4_goOnBidding cX4_goOnBidding 3 none zR_X4_goOnBidding [.ref (a 0), .int (p0)] (zS C a u) D C (fun A => va_Qv (fun u' => u' = zf_X4_goOnBidding u p0) (fun u' t => va_P D vwCl (zS C a u') t.heap) A) := by
  refine zk_mm (by decide) (Nat.le_of_ble_eq_true rfl) ?_
  intro p e s m below meth c A X Y hD hA
  generalize hv : zf_X4_goOnBidding u p0 = V
  unfold zf_X4_goOnBidding at hv
  show zJ _ _ _ _ _ _ _ _ _ _ _ _ _ _ _ _ _ 0 [(0, .ref (a 0)), (1, .int (p0))] []
  refine zj_aload_n 1 X 0 dX4_goOnBidding_0 rfl rfl ?_
  refine zg_RX4_33 4 X (w := zuI u 5) rfl dX4_goOnBidding_1 rfl ?_
  refine zc_i 7 (zr_S (As := [.int (zuI u 5)]) (rest := []) X (zc_X4_playerAfter (l := l) (p0 := zuI u 5)) zw_X4_48 zn_X4_playerAfter (zcR_of rfl) zs0 rfl (Nat.le_of_ble_eq_true rfl) dX4_goOnBidding_4) rfl ?_
  refine zc_i 10 (zr_S (As := [.int (zf_X4_playerAfter (zuI u 5))]) (rest := []) X (zc_X4_playerAfter (l := l) (p0 := zf_X4_playerAfter (zuI u 5))) zw_X4_48 zn_X4_playerAfter (zcR_of rfl) zs0 rfl (Nat.le_of_ble_eq_true rfl) dX4_goOnBidding_7) rfl ?_
  refine zj_istore_n 11 X (lv1 := [(0, .ref (a 0)), (1, .int (p0)), (2, .int (zf_X4_playerAfter (zf_X4_playerAfter (zuI u 5))))]) [1, 2, 0] dX4_goOnBidding_10 (by decide) rfl rfl ?_
  refine zj_aload_n 12 X 0 dX4_goOnBidding_11 rfl rfl ?_
  refine zg_RX4_77 15 X (w := zuI u 8) rfl dX4_goOnBidding_12 rfl ?_
  refine zj_iload_n 16 X 2 dX4_goOnBidding_15 rfl rfl ?_
  refine zj_icmp_eq 19 28 X dX4_goOnBidding_16 (by decide) rfl (fun c1 => ?_) (fun c1 => ?_)
  · rw [if_pos c1] at hv
    refine zj_aload_n 29 X 0 dX4_goOnBidding_28 rfl rfl ?_
    refine zg_RX4_66 32 X (w := zuI u 10) rfl dX4_goOnBidding_29 rfl ?_
    refine zj_if_le 35 43 X dX4_goOnBidding_32 (by decide) rfl (fun c2 => ?_) (fun c2 => ?_)
    · rw [if_pos c2] at hv
      refine zj_aload_n 44 X 0 dX4_goOnBidding_43 rfl rfl ?_
      refine zj_iload_n 45 X 1 dX4_goOnBidding_44 rfl rfl ?_
      refine zj_iconst 46 X (v := (-1)) dX4_goOnBidding_45 (by decide) rfl ?_
      refine zc_vm 49 (Wd := zS C a) (zr_Vm (As := [.int (p0), .int ((-1))]) (rest := []) X (zc_X4_startBidding (l := l) (p0 := p0) (p1 := (-1)) (u := u)) zw_X4_242 zn_X4_startBidding (zcR_of rfl) zO_S0 (zD_S _ hD) hA rfl (Nat.le_of_ble_eq_true rfl) dX4_goOnBidding_46) (zD_S _ hD) hA rfl ?_
      exact ze_vm (Wd := zS C a) (u := (zf_X4_startBidding u p0 (-1))) X Y hv dX4_goOnBidding_49
    · rw [if_neg c2] at hv
      refine zj_aload_n 36 X 0 dX4_goOnBidding_35 rfl rfl ?_
      refine zj_iload_n 37 X 1 dX4_goOnBidding_36 rfl rfl ?_
      refine zc_vm 40 (Wd := zS C a) (zr_Vm (As := [.int (p0)]) (rest := []) X (zc_X4_makeDeclarer (l := l) (p0 := p0) (u := u)) zw_X4_80 zn_X4_makeDeclarer (zcR_of rfl) zO_S0 (zD_S _ hD) hA rfl (Nat.le_of_ble_eq_true rfl) dX4_goOnBidding_37) (zD_S _ hD) hA rfl ?_
      refine zj_goto 49 X dX4_goOnBidding_40 (by decide) ?_
      exact ze_vm (Wd := zS C a) (u := (zf_X4_makeDeclarer u p0)) X Y hv dX4_goOnBidding_49
  · rw [if_neg c1] at hv
    refine zj_aload_n 20 X 0 dX4_goOnBidding_19 rfl rfl ?_
    refine zj_iload_n 21 X 2 dX4_goOnBidding_20 rfl rfl ?_
    refine zj_iload_n 22 X 1 dX4_goOnBidding_21 rfl rfl ?_
    refine zc_vm 25 (Wd := zS C a) (zr_Vm (As := [.int (zf_X4_playerAfter (zf_X4_playerAfter (zuI u 5))), .int (p0)]) (rest := []) X (zc_X4_startBidding (l := l) (p0 := zf_X4_playerAfter (zf_X4_playerAfter (zuI u 5))) (p1 := p0) (u := u)) zw_X4_242 zn_X4_startBidding (zcR_of rfl) zO_S0 (zD_S _ hD) hA rfl (Nat.le_of_ble_eq_true rfl) dX4_goOnBidding_22) (zD_S _ hD) hA rfl ?_
    refine zj_goto 49 X dX4_goOnBidding_25 (by decide) ?_
    exact ze_vm (Wd := zS C a) (u := (zf_X4_startBidding u (zf_X4_playerAfter (zf_X4_playerAfter (zuI u 5))) p0)) X Y hv dX4_goOnBidding_49
def zf_X4_playableCards (u : zU) : Int64 := if (zf_X3_isEmpty u) = 0 then (if (lg_cmp ((zuC u (zf_X4_seat u (zuI u 7))) &&& (zf_X1_colourOf (zf_X3_cardAt u 0) (zuI u 12))) 0) = 0 then zuC u (zf_X4_seat u (zuI u 7)) else (zuC u (zf_X4_seat u (zuI u 7))) &&& (zf_X1_colourOf (zf_X3_cardAt u 0) (zuI u 12))) else zuC u (zf_X4_seat u (zuI u 7))
abbrev zR_X4_playableCards : Room := { frames := 3, cells := 0, slots := 0, locals := 63 }
set_option maxHeartbeats 4000000 in
set_option maxRecDepth 100000 in
theorem zc_X4_playableCards {l : Launch} {D : va_G} {C : ClassId × ClassId} {a : Nat → Nat} {u : zU} : zk_Mp l yX4_playableCards cX4_playableCards 5 (some .long) zR_X4_playableCards [.ref (a 0)] (zS C a u) D C (vp_Sl (fun r => r = zf_X4_playableCards u)) := by
  refine zk_mp (by decide) (Nat.le_of_ble_eq_true rfl) ?_
  intro p e s m below meth c X Y
  generalize hv : zf_X4_playableCards u = V
  unfold zf_X4_playableCards at hv
  show zJ _ _ _ _ _ _ _ _ _ _ _ _ _ _ _ _ _ 0 [(0, .ref (a 0))] []
  refine zj_aload_n 1 X 0 dX4_playableCards_0 rfl rfl ?_
  refine zj_aload_n 2 X 0 dX4_playableCards_1 rfl rfl ?_
  refine zg_RX4_55 5 X (w := zuI u 7) rfl dX4_playableCards_2 rfl ?_
  refine zc_r 8 (ad := fun k => .ref (a (1 + k))) (zr_V (As := [.int (zuI u 7)]) (rest := []) X (zc_X4_seat (l := l) (p0 := zuI u 7) (u := u)) zw_X4_107 zn_X4_seat (zcR_of rfl) zO_S0 zsI rfl (Nat.le_of_ble_eq_true rfl) dX4_playableCards_5) rfl ?_
  refine zg_RX4_111 11 (zf_X4_seat u (zuI u 7)) (zseat_lt _ _) X (w := zuC u (zf_X4_seat u (zuI u 7))) rfl dX4_playableCards_8 rfl ?_
  refine zj_lstore_n 12 X (lv1 := [(0, .ref (a 0)), (1, .long (zuC u (zf_X4_seat u (zuI u 7))))]) [1, 0] dX4_playableCards_11 (by decide) rfl rfl ?_
  refine zj_aload_n 13 X 0 dX4_playableCards_12 rfl rfl ?_
  refine zg_RX4_25 16 X dX4_playableCards_13 rfl ?_
  refine zc_i 19 (zr_VN (As := []) (rest := []) X (zc_X3_isEmpty (l := l) (u := u)) zw_X4_257 zn_X3_isEmpty (zcR_of rfl) zO_S4 zsI rfl (Nat.le_of_ble_eq_true rfl) dX4_playableCards_16) rfl ?_
  refine zj_if_eq 22 24 X dX4_playableCards_19 (by decide) rfl (fun c1 => ?_) (fun c1 => ?_)
  · rw [if_pos c1] at hv
    refine zj_lload_n 25 X 1 dX4_playableCards_24 rfl rfl ?_
    refine zj_aload_n 26 X 0 dX4_playableCards_25 rfl rfl ?_
    refine zg_RX4_25 29 X dX4_playableCards_26 rfl ?_
    refine zj_iconst 30 X (v := 0) dX4_playableCards_29 (by decide) rfl ?_
    refine zc_i 33 (zr_VN (As := [.int (0)]) (rest := [.long (zuC u (zf_X4_seat u (zuI u 7)))]) X (zc_X3_cardAt (l := l) (p0 := 0) (u := u)) zw_X4_212 zn_X3_cardAt (zcR_of rfl) zO_S4 zsI rfl (Nat.le_of_ble_eq_true rfl) dX4_playableCards_30) rfl ?_
    refine zj_aload_n 34 X 0 dX4_playableCards_33 rfl rfl ?_
    refine zg_RX4_158 37 X (w := zuI u 12) rfl dX4_playableCards_34 rfl ?_
    refine zc_l 40 (zr_SN (As := [.int (zf_X3_cardAt u 0), .int (zuI u 12)]) (rest := [.long (zuC u (zf_X4_seat u (zuI u 7)))]) X (zc_X1_colourOf (l := l) (p0 := zf_X3_cardAt u 0) (p1 := zuI u 12)) zw_X4_260 zn_X1_colourOf (zcR_of rfl) zs0 rfl (Nat.le_of_ble_eq_true rfl) dX4_playableCards_37) rfl ?_
    refine zj_land 41 X dX4_playableCards_40 rfl ?_
    refine zj_lstore_n 42 X (lv1 := [(0, .ref (a 0)), (1, .long (zuC u (zf_X4_seat u (zuI u 7)))), (3, .long ((zuC u (zf_X4_seat u (zuI u 7))) &&& (zf_X1_colourOf (zf_X3_cardAt u 0) (zuI u 12))))]) [1, 2, 0] dX4_playableCards_41 (by decide) rfl rfl ?_
    refine zj_lload_n 43 X 2 dX4_playableCards_42 rfl rfl ?_
    refine zj_lconst 44 X (v := 0) dX4_playableCards_43 (by decide) rfl ?_
    refine zj_lcmp 45 X dX4_playableCards_44 rfl ?_
    refine zj_if_eq 48 52 X dX4_playableCards_45 (by decide) rfl (fun c2 => ?_) (fun c2 => ?_)
    · rw [if_pos c2] at hv
      refine zj_lload_n 53 X 1 dX4_playableCards_52 rfl rfl ?_
      exact ze_l X Y hv dX4_playableCards_53
    · rw [if_neg c2] at hv
      refine zj_lload_n 49 X 2 dX4_playableCards_48 rfl rfl ?_
      refine zj_goto 53 X dX4_playableCards_49 (by decide) ?_
      exact ze_l X Y hv dX4_playableCards_53
  · rw [if_neg c1] at hv
    refine zj_lload_n 23 X 1 dX4_playableCards_22 rfl rfl ?_
    exact ze_l X Y hv dX4_playableCards_23
def zf_X4_trickWinner (u : zU) : Int32 := if (zf_X3_winningPlace u (zuI u 12)) = 0 then zf_X4_playerAfter (zuI u 7) else (if (zf_X3_winningPlace u (zuI u 12)) = 1 then zf_X4_playerAfter (zf_X4_playerAfter (zuI u 7)) else zuI u 7)
abbrev zR_X4_trickWinner : Room := { frames := 5, cells := 0, slots := 0, locals := 109 }
set_option maxHeartbeats 4000000 in
set_option maxRecDepth 100000 in
theorem zc_X4_trickWinner {l : Launch} {D : va_G} {C : ClassId × ClassId} {a : Nat → Nat} {u : zU} (hZ : zuZ u = 3) : zk_Mp l yX4_trickWinner cX4_trickWinner 3 (some .int) zR_X4_trickWinner [.ref (a 0)] (zS C a u) D C (vp_Si (fun r => r = zf_X4_trickWinner u)) := by
  refine zk_mp (by decide) (Nat.le_of_ble_eq_true rfl) ?_
  intro p e s m below meth c X Y
  generalize hv : zf_X4_trickWinner u = V
  unfold zf_X4_trickWinner at hv
  show zJ _ _ _ _ _ _ _ _ _ _ _ _ _ _ _ _ _ 0 [(0, .ref (a 0))] []
  refine zj_aload_n 1 X 0 dX4_trickWinner_0 rfl rfl ?_
  refine zg_RX4_55 4 X (w := zuI u 7) rfl dX4_trickWinner_1 rfl ?_
  refine zc_i 7 (zr_S (As := [.int (zuI u 7)]) (rest := []) X (zc_X4_playerAfter (l := l) (p0 := zuI u 7)) zw_X4_48 zn_X4_playerAfter (zcR_of rfl) zs0 rfl (Nat.le_of_ble_eq_true rfl) dX4_trickWinner_4) rfl ?_
  refine zj_istore_n 8 X (lv1 := [(0, .ref (a 0)), (1, .int (zf_X4_playerAfter (zuI u 7)))]) [1, 0] dX4_trickWinner_7 (by decide) rfl rfl ?_
  refine zj_aload_n 9 X 0 dX4_trickWinner_8 rfl rfl ?_
  refine zg_RX4_25 12 X dX4_trickWinner_9 rfl ?_
  refine zj_aload_n 13 X 0 dX4_trickWinner_12 rfl rfl ?_
  refine zg_RX4_158 16 X (w := zuI u 12) rfl dX4_trickWinner_13 rfl ?_
  refine zc_i 19 (zr_VN (As := [.int (zuI u 12)]) (rest := []) X (zc_X3_winningPlace (l := l) (p0 := zuI u 12) (u := u) (hZ := hZ)) zw_X4_264 zn_X3_winningPlace (zcR_of rfl) zO_S4 zsI rfl (Nat.le_of_ble_eq_true rfl) dX4_trickWinner_16) rfl ?_
  refine zj_istore_n 20 X (lv1 := [(0, .ref (a 0)), (1, .int (zf_X4_playerAfter (zuI u 7))), (2, .int (zf_X3_winningPlace u (zuI u 12)))]) [1, 2, 0] dX4_trickWinner_19 (by decide) rfl rfl ?_
  refine zj_iload_n 21 X 2 dX4_trickWinner_20 rfl rfl ?_
  refine zj_if_ne 24 26 X dX4_trickWinner_21 (by decide) rfl (fun c1 => ?_) (fun c1 => ?_)
  · rw [if_neg c1] at hv
    refine zj_iload_n 27 X 2 dX4_trickWinner_26 rfl rfl ?_
    refine zj_iconst 28 X (v := 1) dX4_trickWinner_27 (by decide) rfl ?_
    refine zj_icmp_ne 31 38 X dX4_trickWinner_28 (by decide) rfl (fun c2 => ?_) (fun c2 => ?_)
    · rw [if_neg c2] at hv
      refine zj_aload_n 39 X 0 dX4_trickWinner_38 rfl rfl ?_
      refine zg_RX4_55 42 X (w := zuI u 7) rfl dX4_trickWinner_39 rfl ?_
      exact ze_i X Y hv dX4_trickWinner_42
    · rw [if_pos c2] at hv
      refine zj_iload_n 32 X 1 dX4_trickWinner_31 rfl rfl ?_
      refine zc_i 35 (zr_S (As := [.int (zf_X4_playerAfter (zuI u 7))]) (rest := []) X (zc_X4_playerAfter (l := l) (p0 := zf_X4_playerAfter (zuI u 7))) zw_X4_48 zn_X4_playerAfter (zcR_of rfl) zs0 rfl (Nat.le_of_ble_eq_true rfl) dX4_trickWinner_32) rfl ?_
      refine zj_goto 42 X dX4_trickWinner_35 (by decide) ?_
      exact ze_i X Y hv dX4_trickWinner_42
  · rw [if_pos c1] at hv
    refine zj_iload_n 25 X 1 dX4_trickWinner_24 rfl rfl ?_
    exact ze_i X Y hv dX4_trickWinner_25
def zf_X4_allTricksWon (u : zU) : Int32 := ((zuT u 0) + (zuT u 1)) + (zuT u 2)
abbrev zR_X4_allTricksWon : Room := { frames := 0, cells := 0, slots := 0, locals := 0 }
set_option maxHeartbeats 4000000 in
set_option maxRecDepth 100000 in
theorem zc_X4_allTricksWon {l : Launch} {D : va_G} {C : ClassId × ClassId} {a : Nat → Nat} {u : zU} : zk_Mp l yX4_allTricksWon cX4_allTricksWon 1 (some .int) zR_X4_allTricksWon [.ref (a 0)] (zS C a u) D C (vp_Si (fun r => r = zf_X4_allTricksWon u)) := by
  refine zk_mp (by decide) (Nat.le_of_ble_eq_true rfl) ?_
  intro p e s m below meth c X Y
  generalize hv : zf_X4_allTricksWon u = V
  unfold zf_X4_allTricksWon at hv
  show zJ _ _ _ _ _ _ _ _ _ _ _ _ _ _ _ _ _ 0 [(0, .ref (a 0))] []
  refine zj_aload_n 1 X 0 dX4_allTricksWon_0 rfl rfl ?_
  refine zg_RX4_10 4 X dX4_allTricksWon_1 rfl ?_
  refine zg_RX4_215 7 0 (by decide) X (w := zuT u 0) rfl dX4_allTricksWon_4 rfl ?_
  refine zj_aload_n 8 X 0 dX4_allTricksWon_7 rfl rfl ?_
  refine zg_RX4_16 11 X dX4_allTricksWon_8 rfl ?_
  refine zg_RX4_215 14 1 (by decide) X (w := zuT u 1) rfl dX4_allTricksWon_11 rfl ?_
  refine zj_iadd 15 X dX4_allTricksWon_14 rfl ?_
  refine zj_aload_n 16 X 0 dX4_allTricksWon_15 rfl rfl ?_
  refine zg_RX4_19 19 X dX4_allTricksWon_16 rfl ?_
  refine zg_RX4_215 22 2 (by decide) X (w := zuT u 2) rfl dX4_allTricksWon_19 rfl ?_
  refine zj_iadd 23 X dX4_allTricksWon_22 rfl ?_
  exact ze_i X Y hv dX4_allTricksWon_23
def zf_X4_allPointsWon (u : zU) : Int32 := ((zuP u 0) + (zuP u 1)) + (zuP u 2)
abbrev zR_X4_allPointsWon : Room := { frames := 0, cells := 0, slots := 0, locals := 0 }
set_option maxHeartbeats 4000000 in
set_option maxRecDepth 100000 in
theorem zc_X4_allPointsWon {l : Launch} {D : va_G} {C : ClassId × ClassId} {a : Nat → Nat} {u : zU} : zk_Mp l yX4_allPointsWon cX4_allPointsWon 1 (some .int) zR_X4_allPointsWon [.ref (a 0)] (zS C a u) D C (vp_Si (fun r => r = zf_X4_allPointsWon u)) := by
  refine zk_mp (by decide) (Nat.le_of_ble_eq_true rfl) ?_
  intro p e s m below meth c X Y
  generalize hv : zf_X4_allPointsWon u = V
  unfold zf_X4_allPointsWon at hv
  show zJ _ _ _ _ _ _ _ _ _ _ _ _ _ _ _ _ _ 0 [(0, .ref (a 0))] []
  refine zj_aload_n 1 X 0 dX4_allPointsWon_0 rfl rfl ?_
  refine zg_RX4_10 4 X dX4_allPointsWon_1 rfl ?_
  refine zg_RX4_155 7 0 (by decide) X (w := zuP u 0) rfl dX4_allPointsWon_4 rfl ?_
  refine zj_aload_n 8 X 0 dX4_allPointsWon_7 rfl rfl ?_
  refine zg_RX4_16 11 X dX4_allPointsWon_8 rfl ?_
  refine zg_RX4_155 14 1 (by decide) X (w := zuP u 1) rfl dX4_allPointsWon_11 rfl ?_
  refine zj_iadd 15 X dX4_allPointsWon_14 rfl ?_
  refine zj_aload_n 16 X 0 dX4_allPointsWon_15 rfl rfl ?_
  refine zg_RX4_19 19 X dX4_allPointsWon_16 rfl ?_
  refine zg_RX4_155 22 2 (by decide) X (w := zuP u 2) rfl dX4_allPointsWon_19 rfl ?_
  refine zj_iadd 23 X dX4_allPointsWon_22 rfl ?_
  exact ze_i X Y hv dX4_allPointsWon_23
def zf_X4_mostPoints (u : zU) : Int32 := if zuP u 0 < if zuP u 1 < zuP u 2 then zuP u 2 else zuP u 1 then if zuP u 1 < zuP u 2 then zuP u 2 else zuP u 1 else zuP u 0
abbrev zR_X4_mostPoints : Room := { frames := 1, cells := 0, slots := 0, locals := 30 }
set_option maxHeartbeats 4000000 in
set_option maxRecDepth 100000 in
theorem zc_X4_mostPoints {l : Launch} {D : va_G} {C : ClassId × ClassId} {a : Nat → Nat} {u : zU} : zk_Mp l yX4_mostPoints cX4_mostPoints 1 (some .int) zR_X4_mostPoints [.ref (a 0)] (zS C a u) D C (vp_Si (fun r => r = zf_X4_mostPoints u)) := by
  refine zk_mp (by decide) (Nat.le_of_ble_eq_true rfl) ?_
  intro p e s m below meth c X Y
  generalize hv : zf_X4_mostPoints u = V
  unfold zf_X4_mostPoints at hv
  show zJ _ _ _ _ _ _ _ _ _ _ _ _ _ _ _ _ _ 0 [(0, .ref (a 0))] []
  refine zj_aload_n 1 X 0 dX4_mostPoints_0 rfl rfl ?_
  refine zg_RX4_10 4 X dX4_mostPoints_1 rfl ?_
  refine zg_RX4_155 7 0 (by decide) X (w := zuP u 0) rfl dX4_mostPoints_4 rfl ?_
  refine zj_aload_n 8 X 0 dX4_mostPoints_7 rfl rfl ?_
  refine zg_RX4_16 11 X dX4_mostPoints_8 rfl ?_
  refine zg_RX4_155 14 1 (by decide) X (w := zuP u 1) rfl dX4_mostPoints_11 rfl ?_
  refine zj_aload_n 15 X 0 dX4_mostPoints_14 rfl rfl ?_
  refine zg_RX4_19 18 X dX4_mostPoints_15 rfl ?_
  refine zg_RX4_155 21 2 (by decide) X (w := zuP u 2) rfl dX4_mostPoints_18 rfl ?_
  refine zc_max 24 X ⟨Nat.le_of_ble_eq_true rfl, Nat.le_of_ble_eq_true rfl, Nat.le_of_ble_eq_true rfl, Nat.le_of_ble_eq_true rfl⟩ dX4_mostPoints_21 rfl ?_
  refine zc_max 27 X ⟨Nat.le_of_ble_eq_true rfl, Nat.le_of_ble_eq_true rfl, Nat.le_of_ble_eq_true rfl, Nat.le_of_ble_eq_true rfl⟩ dX4_mostPoints_24 rfl ?_
  exact ze_i X Y hv dX4_mostPoints_27
def zf_X4_nullValue (u : zU) : Int32 := if (zuI u 13) = 3 then (if (zuI u 14) = 0 then 46 else 59) else (if (zuI u 14) = 0 then 23 else 35)
abbrev zR_X4_nullValue : Room := { frames := 0, cells := 0, slots := 0, locals := 0 }
set_option maxHeartbeats 4000000 in
set_option maxRecDepth 100000 in
theorem zc_X4_nullValue {l : Launch} {D : va_G} {C : ClassId × ClassId} {a : Nat → Nat} {u : zU} : zk_Mp l yX4_nullValue cX4_nullValue 1 (some .int) zR_X4_nullValue [.ref (a 0)] (zS C a u) D C (vp_Si (fun r => r = zf_X4_nullValue u)) := by
  refine zk_mp (by decide) (Nat.le_of_ble_eq_true rfl) ?_
  intro p e s m below meth c X Y
  generalize hv : zf_X4_nullValue u = V
  unfold zf_X4_nullValue at hv
  show zJ _ _ _ _ _ _ _ _ _ _ _ _ _ _ _ _ _ 0 [(0, .ref (a 0))] []
  refine zj_aload_n 1 X 0 dX4_nullValue_0 rfl rfl ?_
  refine zg_RX4_148 4 X (w := zuI u 13) rfl dX4_nullValue_1 rfl ?_
  refine zj_iconst 5 X (v := 3) dX4_nullValue_4 (by decide) rfl ?_
  refine zj_icmp_ne 8 23 X dX4_nullValue_5 (by decide) rfl (fun c1 => ?_) (fun c1 => ?_)
  · rw [if_neg c1] at hv
    refine zj_aload_n 24 X 0 dX4_nullValue_23 rfl rfl ?_
    refine zg_RX4_151 27 X (w := zuI u 14) rfl dX4_nullValue_24 rfl ?_
    refine zj_if_eq 30 35 X dX4_nullValue_27 (by decide) rfl (fun c2 => ?_) (fun c2 => ?_)
    · rw [if_pos c2] at hv
      refine zj_bipush 37 X (v := 23) dX4_nullValue_35 (by decide) rfl ?_
      exact ze_i X Y hv dX4_nullValue_37
    · rw [if_neg c2] at hv
      refine zj_bipush 32 X (v := 35) dX4_nullValue_30 (by decide) rfl ?_
      refine zj_goto 37 X dX4_nullValue_32 (by decide) ?_
      exact ze_i X Y hv dX4_nullValue_37
  · rw [if_pos c1] at hv
    refine zj_aload_n 9 X 0 dX4_nullValue_8 rfl rfl ?_
    refine zg_RX4_151 12 X (w := zuI u 14) rfl dX4_nullValue_9 rfl ?_
    refine zj_if_eq 15 20 X dX4_nullValue_12 (by decide) rfl (fun c3 => ?_) (fun c3 => ?_)
    · rw [if_pos c3] at hv
      refine zj_bipush 22 X (v := 46) dX4_nullValue_20 (by decide) rfl ?_
      exact ze_i X Y hv dX4_nullValue_22
    · rw [if_neg c3] at hv
      refine zj_bipush 17 X (v := 59) dX4_nullValue_15 (by decide) rfl ?_
      refine zj_goto 22 X dX4_nullValue_17 (by decide) ?_
      exact ze_i X Y hv dX4_nullValue_22
def zf_X4_baseValue (u : zU) : Int32 := if (zuI u 12) = 4 then 24 else 9 + (zuI u 12)
abbrev zR_X4_baseValue : Room := { frames := 0, cells := 0, slots := 0, locals := 0 }
set_option maxHeartbeats 4000000 in
set_option maxRecDepth 100000 in
theorem zc_X4_baseValue {l : Launch} {D : va_G} {C : ClassId × ClassId} {a : Nat → Nat} {u : zU} : zk_Mp l yX4_baseValue cX4_baseValue 1 (some .int) zR_X4_baseValue [.ref (a 0)] (zS C a u) D C (vp_Si (fun r => r = zf_X4_baseValue u)) := by
  refine zk_mp (by decide) (Nat.le_of_ble_eq_true rfl) ?_
  intro p e s m below meth c X Y
  generalize hv : zf_X4_baseValue u = V
  unfold zf_X4_baseValue at hv
  show zJ _ _ _ _ _ _ _ _ _ _ _ _ _ _ _ _ _ 0 [(0, .ref (a 0))] []
  refine zj_aload_n 1 X 0 dX4_baseValue_0 rfl rfl ?_
  refine zg_RX4_158 4 X (w := zuI u 12) rfl dX4_baseValue_1 rfl ?_
  refine zj_iconst 5 X (v := 4) dX4_baseValue_4 (by decide) rfl ?_
  refine zj_icmp_ne 8 13 X dX4_baseValue_5 (by decide) rfl (fun c1 => ?_) (fun c1 => ?_)
  · rw [if_neg c1] at hv
    refine zj_bipush 15 X (v := 9) dX4_baseValue_13 (by decide) rfl ?_
    refine zj_aload_n 16 X 0 dX4_baseValue_15 rfl rfl ?_
    refine zg_RX4_158 19 X (w := zuI u 12) rfl dX4_baseValue_16 rfl ?_
    refine zj_iadd 20 X dX4_baseValue_19 rfl ?_
    exact ze_i X Y hv dX4_baseValue_20
  · rw [if_pos c1] at hv
    refine zj_bipush 10 X (v := 24) dX4_baseValue_8 (by decide) rfl ?_
    refine zj_goto 20 X dX4_baseValue_10 (by decide) ?_
    exact ze_i X Y hv dX4_baseValue_20
def zf_X4_hasOneSidePoints (u : zU) (p0 : Int32) : Int32 := if p0 ≤ (zuP u (zf_X4_seat u (zuI u 11))) then 1 else (if ((zf_X4_allPointsWon u) - (zuP u (zf_X4_seat u (zuI u 11)))) < p0 then 0 else 1)
abbrev zR_X4_hasOneSidePoints : Room := { frames := 1, cells := 0, slots := 0, locals := 21 }
set_option maxHeartbeats 4000000 in
set_option maxRecDepth 100000 in
theorem zc_X4_hasOneSidePoints {l : Launch} {D : va_G} {C : ClassId × ClassId} {a : Nat → Nat} {u : zU} {p0 : Int32} : zk_Mp l yX4_hasOneSidePoints cX4_hasOneSidePoints 3 (some .boolean) zR_X4_hasOneSidePoints [.ref (a 0), .int (p0)] (zS C a u) D C (vp_Si (fun r => r = zf_X4_hasOneSidePoints u p0)) := by
  refine zk_mp (by decide) (Nat.le_of_ble_eq_true rfl) ?_
  intro p e s m below meth c X Y
  generalize hv : zf_X4_hasOneSidePoints u p0 = V
  unfold zf_X4_hasOneSidePoints at hv
  show zJ _ _ _ _ _ _ _ _ _ _ _ _ _ _ _ _ _ 0 [(0, .ref (a 0)), (1, .int (p0))] []
  refine zj_aload_n 1 X 0 dX4_hasOneSidePoints_0 rfl rfl ?_
  refine zj_aload_n 2 X 0 dX4_hasOneSidePoints_1 rfl rfl ?_
  refine zg_RX4_98 5 X (w := zuI u 11) rfl dX4_hasOneSidePoints_2 rfl ?_
  refine zc_r 8 (ad := fun k => .ref (a (1 + k))) (zr_V (As := [.int (zuI u 11)]) (rest := []) X (zc_X4_seat (l := l) (p0 := zuI u 11) (u := u)) zw_X4_107 zn_X4_seat (zcR_of rfl) zO_S0 zsI rfl (Nat.le_of_ble_eq_true rfl) dX4_hasOneSidePoints_5) rfl ?_
  refine zg_RX4_155 11 (zf_X4_seat u (zuI u 11)) (zseat_lt _ _) X (w := zuP u (zf_X4_seat u (zuI u 11))) rfl dX4_hasOneSidePoints_8 rfl ?_
  refine zj_istore_n 12 X (lv1 := [(0, .ref (a 0)), (1, .int (p0)), (2, .int (zuP u (zf_X4_seat u (zuI u 11))))]) [1, 2, 0] dX4_hasOneSidePoints_11 (by decide) rfl rfl ?_
  refine zj_iload_n 13 X 2 dX4_hasOneSidePoints_12 rfl rfl ?_
  refine zj_iload_n 14 X 1 dX4_hasOneSidePoints_13 rfl rfl ?_
  refine zj_icmp_ge 17 27 X dX4_hasOneSidePoints_14 (by decide) rfl (fun c1 => ?_) (fun c1 => ?_)
  · rw [if_pos c1] at hv
    refine zj_iconst 28 X (v := 1) dX4_hasOneSidePoints_27 (by decide) rfl ?_
    refine zj_goto 32 X dX4_hasOneSidePoints_28 (by decide) ?_
    exact ze_z X Y (by decide) hv dX4_hasOneSidePoints_32
  · rw [if_neg c1] at hv
    refine zj_aload_n 18 X 0 dX4_hasOneSidePoints_17 rfl rfl ?_
    refine zc_i 21 (zr_V (As := []) (rest := []) X (zc_X4_allPointsWon (l := l) (u := u)) zw_X4_303 zn_X4_allPointsWon (zcR_of rfl) zO_S0 zsI rfl (Nat.le_of_ble_eq_true rfl) dX4_hasOneSidePoints_18) rfl ?_
    refine zj_iload_n 22 X 2 dX4_hasOneSidePoints_21 rfl rfl ?_
    refine zj_isub 23 X dX4_hasOneSidePoints_22 rfl ?_
    refine zj_iload_n 24 X 1 dX4_hasOneSidePoints_23 rfl rfl ?_
    refine zj_icmp_lt 27 31 X dX4_hasOneSidePoints_24 (by decide) rfl (fun c2 => ?_) (fun c2 => ?_)
    · rw [if_pos c2] at hv
      refine zj_iconst 32 X (v := 0) dX4_hasOneSidePoints_31 (by decide) rfl ?_
      exact ze_z X Y (by decide) hv dX4_hasOneSidePoints_32
    · rw [if_neg c2] at hv
      refine zj_iconst 28 X (v := 1) dX4_hasOneSidePoints_27 (by decide) rfl ?_
      refine zj_goto 32 X dX4_hasOneSidePoints_28 (by decide) ?_
      exact ze_z X Y (by decide) hv dX4_hasOneSidePoints_32
def zf_X4_hasOneSideAllTricks (u : zU) : Int32 := if (zuT u (zf_X4_seat u (zuI u 11))) = 10 then 1 else (if ((zf_X4_allTricksWon u) - (zuT u (zf_X4_seat u (zuI u 11)))) = 10 then 1 else 0)
abbrev zR_X4_hasOneSideAllTricks : Room := { frames := 1, cells := 0, slots := 0, locals := 21 }
set_option maxHeartbeats 4000000 in
set_option maxRecDepth 100000 in
theorem zc_X4_hasOneSideAllTricks {l : Launch} {D : va_G} {C : ClassId × ClassId} {a : Nat → Nat} {u : zU} : zk_Mp l yX4_hasOneSideAllTricks cX4_hasOneSideAllTricks 2 (some .boolean) zR_X4_hasOneSideAllTricks [.ref (a 0)] (zS C a u) D C (vp_Si (fun r => r = zf_X4_hasOneSideAllTricks u)) := by
  refine zk_mp (by decide) (Nat.le_of_ble_eq_true rfl) ?_
  intro p e s m below meth c X Y
  generalize hv : zf_X4_hasOneSideAllTricks u = V
  unfold zf_X4_hasOneSideAllTricks at hv
  show zJ _ _ _ _ _ _ _ _ _ _ _ _ _ _ _ _ _ 0 [(0, .ref (a 0))] []
  refine zj_aload_n 1 X 0 dX4_hasOneSideAllTricks_0 rfl rfl ?_
  refine zj_aload_n 2 X 0 dX4_hasOneSideAllTricks_1 rfl rfl ?_
  refine zg_RX4_98 5 X (w := zuI u 11) rfl dX4_hasOneSideAllTricks_2 rfl ?_
  refine zc_r 8 (ad := fun k => .ref (a (1 + k))) (zr_V (As := [.int (zuI u 11)]) (rest := []) X (zc_X4_seat (l := l) (p0 := zuI u 11) (u := u)) zw_X4_107 zn_X4_seat (zcR_of rfl) zO_S0 zsI rfl (Nat.le_of_ble_eq_true rfl) dX4_hasOneSideAllTricks_5) rfl ?_
  refine zg_RX4_215 11 (zf_X4_seat u (zuI u 11)) (zseat_lt _ _) X (w := zuT u (zf_X4_seat u (zuI u 11))) rfl dX4_hasOneSideAllTricks_8 rfl ?_
  refine zj_istore_n 12 X (lv1 := [(0, .ref (a 0)), (1, .int (zuT u (zf_X4_seat u (zuI u 11))))]) [1, 0] dX4_hasOneSideAllTricks_11 (by decide) rfl rfl ?_
  refine zj_iload_n 13 X 1 dX4_hasOneSideAllTricks_12 rfl rfl ?_
  refine zj_bipush 15 X (v := 10) dX4_hasOneSideAllTricks_13 (by decide) rfl ?_
  refine zj_icmp_eq 18 29 X dX4_hasOneSideAllTricks_15 (by decide) rfl (fun c1 => ?_) (fun c1 => ?_)
  · rw [if_pos c1] at hv
    refine zj_iconst 30 X (v := 1) dX4_hasOneSideAllTricks_29 (by decide) rfl ?_
    refine zj_goto 34 X dX4_hasOneSideAllTricks_30 (by decide) ?_
    exact ze_z X Y (by decide) hv dX4_hasOneSideAllTricks_34
  · rw [if_neg c1] at hv
    refine zj_aload_n 19 X 0 dX4_hasOneSideAllTricks_18 rfl rfl ?_
    refine zc_i 22 (zr_V (As := []) (rest := []) X (zc_X4_allTricksWon (l := l) (u := u)) zw_X4_204 zn_X4_allTricksWon (zcR_of rfl) zO_S0 zsI rfl (Nat.le_of_ble_eq_true rfl) dX4_hasOneSideAllTricks_19) rfl ?_
    refine zj_iload_n 23 X 1 dX4_hasOneSideAllTricks_22 rfl rfl ?_
    refine zj_isub 24 X dX4_hasOneSideAllTricks_23 rfl ?_
    refine zj_bipush 26 X (v := 10) dX4_hasOneSideAllTricks_24 (by decide) rfl ?_
    refine zj_icmp_ne 29 33 X dX4_hasOneSideAllTricks_26 (by decide) rfl (fun c2 => ?_) (fun c2 => ?_)
    · rw [if_neg c2] at hv
      refine zj_iconst 34 X (v := 0) dX4_hasOneSideAllTricks_33 (by decide) rfl ?_
      exact ze_z X Y (by decide) hv dX4_hasOneSideAllTricks_34
    · rw [if_pos c2] at hv
      refine zj_iconst 30 X (v := 1) dX4_hasOneSideAllTricks_29 (by decide) rfl ?_
      refine zj_goto 34 X dX4_hasOneSideAllTricks_30 (by decide) ?_
      exact ze_z X Y (by decide) hv dX4_hasOneSideAllTricks_34
def zf_X4_cardsForMatadors (u : zU) (p0 : Int32) : Int64 := if p0 = (zuI u 11) then ((zuC u (zf_X4_seat u p0)) ||| (zuL u (zf_X4_seat u p0))) ||| (zuK u) else (zuC u (zf_X4_seat u p0)) ||| (zuL u (zf_X4_seat u p0))
abbrev zR_X4_cardsForMatadors : Room := { frames := 1, cells := 0, slots := 0, locals := 21 }
set_option maxHeartbeats 4000000 in
set_option maxRecDepth 100000 in
theorem zc_X4_cardsForMatadors {l : Launch} {D : va_G} {C : ClassId × ClassId} {a : Nat → Nat} {u : zU} {p0 : Int32} : zk_Mp l yX4_cardsForMatadors cX4_cardsForMatadors 4 (some .long) zR_X4_cardsForMatadors [.ref (a 0), .int (p0)] (zS C a u) D C (vp_Sl (fun r => r = zf_X4_cardsForMatadors u p0)) := by
  refine zk_mp (by decide) (Nat.le_of_ble_eq_true rfl) ?_
  intro p e s m below meth c X Y
  generalize hv : zf_X4_cardsForMatadors u p0 = V
  unfold zf_X4_cardsForMatadors at hv
  show zJ _ _ _ _ _ _ _ _ _ _ _ _ _ _ _ _ _ 0 [(0, .ref (a 0)), (1, .int (p0))] []
  refine zj_aload_n 1 X 0 dX4_cardsForMatadors_0 rfl rfl ?_
  refine zj_iload_n 2 X 1 dX4_cardsForMatadors_1 rfl rfl ?_
  refine zc_r 5 (ad := fun k => .ref (a (1 + k))) (zr_V (As := [.int (p0)]) (rest := []) X (zc_X4_seat (l := l) (p0 := p0) (u := u)) zw_X4_107 zn_X4_seat (zcR_of rfl) zO_S0 zsI rfl (Nat.le_of_ble_eq_true rfl) dX4_cardsForMatadors_2) rfl ?_
  refine zg_RX4_111 8 (zf_X4_seat u p0) (zseat_lt _ _) X (w := zuC u (zf_X4_seat u p0)) rfl dX4_cardsForMatadors_5 rfl ?_
  refine zj_aload_n 9 X 0 dX4_cardsForMatadors_8 rfl rfl ?_
  refine zj_iload_n 10 X 1 dX4_cardsForMatadors_9 rfl rfl ?_
  refine zc_r 13 (ad := fun k => .ref (a (1 + k))) (zr_V (As := [.int (p0)]) (rest := [.long (zuC u (zf_X4_seat u p0))]) X (zc_X4_seat (l := l) (p0 := p0) (u := u)) zw_X4_107 zn_X4_seat (zcR_of rfl) zO_S0 zsI rfl (Nat.le_of_ble_eq_true rfl) dX4_cardsForMatadors_10) rfl ?_
  refine zg_RX4_306 16 (zf_X4_seat u p0) (zseat_lt _ _) X (w := zuL u (zf_X4_seat u p0)) rfl dX4_cardsForMatadors_13 rfl ?_
  refine zj_lor 17 X dX4_cardsForMatadors_16 rfl ?_
  refine zj_lstore_n 18 X (lv1 := [(0, .ref (a 0)), (1, .int (p0)), (2, .long ((zuC u (zf_X4_seat u p0)) ||| (zuL u (zf_X4_seat u p0))))]) [1, 2, 0] dX4_cardsForMatadors_17 (by decide) rfl rfl ?_
  refine zj_iload_n 19 X 1 dX4_cardsForMatadors_18 rfl rfl ?_
  refine zj_aload_n 20 X 0 dX4_cardsForMatadors_19 rfl rfl ?_
  refine zg_RX4_98 23 X (w := zuI u 11) rfl dX4_cardsForMatadors_20 rfl ?_
  refine zj_icmp_ne 26 35 X dX4_cardsForMatadors_23 (by decide) rfl (fun c1 => ?_) (fun c1 => ?_)
  · rw [if_neg c1] at hv
    refine zj_lload_n 36 X 2 dX4_cardsForMatadors_35 rfl rfl ?_
    exact ze_l X Y hv dX4_cardsForMatadors_36
  · rw [if_pos c1] at hv
    refine zj_lload_n 27 X 2 dX4_cardsForMatadors_26 rfl rfl ?_
    refine zj_aload_n 28 X 0 dX4_cardsForMatadors_27 rfl rfl ?_
    refine zg_RX4_103 31 X (w := zuK u) rfl dX4_cardsForMatadors_28 rfl ?_
    refine zj_lor 32 X dX4_cardsForMatadors_31 rfl ?_
    refine zj_goto 36 X dX4_cardsForMatadors_32 (by decide) ?_
    exact ze_l X Y hv dX4_cardsForMatadors_36
def zk_X4_multiplier_51 (u : zU) (x1 : Int32) : Int32 := (if 2 ≤ (zuI u 13) then x1 + 1 else if (zf_X4_hasOneSideAllTricks u) = 0 then x1 else x1 + 1) + (zuI u 13)
def zk_X4_multiplier_31 (u : zU) (x1 : Int32) : Int32 := zk_X4_multiplier_51 u (if 1 ≤ (zuI u 13) then x1 + 1 else if (zf_X4_hasOneSidePoints u 90) = 0 then x1 else x1 + 1)
def zk_X4_multiplier_21 (u : zU) (x1 : Int32) : Int32 := zk_X4_multiplier_31 u (if (zuI u 14) = 0 then x1 else x1 + 1)
def zf_X4_multiplier (u : zU) : Int32 := zk_X4_multiplier_21 u ((if 0 ≤ zf_X1_runOfTrumps (zf_X4_cardsForMatadors u (zuI u 11)) (zuI u 12) then zf_X1_runOfTrumps (zf_X4_cardsForMatadors u (zuI u 11)) (zuI u 12) else 0 - zf_X1_runOfTrumps (zf_X4_cardsForMatadors u (zuI u 11)) (zuI u 12)) + 1)
abbrev zR_X4_multiplier : Room := { frames := 2, cells := 0, slots := 0, locals := 46 }
set_option maxHeartbeats 4000000 in
set_option maxRecDepth 100000 in
theorem zc_X4_multiplier {l : Launch} {D : va_G} {C : ClassId × ClassId} {a : Nat → Nat} {u : zU} : zk_Mp l yX4_multiplier cX4_multiplier 2 (some .int) zR_X4_multiplier [.ref (a 0)] (zS C a u) D C (vp_Si (fun r => r = zf_X4_multiplier u)) := by
  refine zk_mp (by decide) (Nat.le_of_ble_eq_true rfl) ?_
  intro p e s m below meth c X Y
  generalize hv : zf_X4_multiplier u = V
  unfold zf_X4_multiplier at hv
  show zJ _ _ _ _ _ _ _ _ _ _ _ _ _ _ _ _ _ 0 [(0, .ref (a 0))] []
  refine zj_aload_n 1 X 0 dX4_multiplier_0 rfl rfl ?_
  refine zj_aload_n 2 X 0 dX4_multiplier_1 rfl rfl ?_
  refine zg_RX4_98 5 X (w := zuI u 11) rfl dX4_multiplier_2 rfl ?_
  refine zc_l 8 (zr_V (As := [.int (zuI u 11)]) (rest := []) X (zc_X4_cardsForMatadors (l := l) (p0 := zuI u 11) (u := u)) zw_X4_166 zn_X4_cardsForMatadors (zcR_of rfl) zO_S0 zsI rfl (Nat.le_of_ble_eq_true rfl) dX4_multiplier_5) rfl ?_
  refine zj_aload_n 9 X 0 dX4_multiplier_8 rfl rfl ?_
  refine zg_RX4_158 12 X (w := zuI u 12) rfl dX4_multiplier_9 rfl ?_
  refine zc_i 15 (zr_SN (As := [.long (zf_X4_cardsForMatadors u (zuI u 11)), .int (zuI u 12)]) (rest := []) X (zc_X1_runOfTrumps (l := l) (p0 := zf_X4_cardsForMatadors u (zuI u 11)) (p1 := zuI u 12)) zw_X4_169 zn_X1_runOfTrumps (zcR_of rfl) zs0 rfl (Nat.le_of_ble_eq_true rfl) dX4_multiplier_12) rfl ?_
  refine zc_abs 18 X ⟨Nat.le_of_ble_eq_true rfl, Nat.le_of_ble_eq_true rfl, Nat.le_of_ble_eq_true rfl, Nat.le_of_ble_eq_true rfl⟩ dX4_multiplier_15 rfl ?_
  refine zj_iconst 19 X (v := 1) dX4_multiplier_18 (by decide) rfl ?_
  refine zj_iadd 20 X dX4_multiplier_19 rfl ?_
  refine zj_istore_n 21 X (lv1 := [(0, .ref (a 0)), (1, .int ((if 0 ≤ zf_X1_runOfTrumps (zf_X4_cardsForMatadors u (zuI u 11)) (zuI u 12) then zf_X1_runOfTrumps (zf_X4_cardsForMatadors u (zuI u 11)) (zuI u 12) else 0 - zf_X1_runOfTrumps (zf_X4_cardsForMatadors u (zuI u 11)) (zuI u 12)) + 1))]) [1, 0] dX4_multiplier_20 (by decide) rfl rfl ?_
  have L1 : ∀ (x1 : Int32), zk_X4_multiplier_21 u x1 = V → zJ p l e zR_X4_multiplier s m ([.ref (a 0)] : List Value).toArray below meth c 0 0 (MQ below (vp_Si (fun r => r = V)) ([.ref (a 0)] : List Value).toArray s 0 0 (fun _ => False)) D (zk_K0 s) 2 (zS C a u) 21 [(0, .ref (a 0)), (1, .int (x1))] [] := by
    intro x1 hv
    unfold zk_X4_multiplier_21 at hv
    refine zj_aload_n 22 X 0 dX4_multiplier_21 rfl rfl ?_
    refine zg_RX4_151 25 X (w := zuI u 14) rfl dX4_multiplier_22 rfl ?_
    refine zj_join 31 [(0, .ref (a 0)), (1, .int (if (zuI u 14) = 0 then x1 else x1 + 1))] [] ?_ (fun J3 => ?_)
    · have L4 : ∀ (x1 : Int32), zk_X4_multiplier_31 u x1 = V → zJ p l e zR_X4_multiplier s m ([.ref (a 0)] : List Value).toArray below meth c 0 0 (MQ below (vp_Si (fun r => r = V)) ([.ref (a 0)] : List Value).toArray s 0 0 (fun _ => False)) D (zk_K0 s) 2 (zS C a u) 31 [(0, .ref (a 0)), (1, .int (x1))] [] := by
        intro x1 hv
        unfold zk_X4_multiplier_31 at hv
        refine zj_aload_n 32 X 0 dX4_multiplier_31 rfl rfl ?_
        refine zg_RX4_148 35 X (w := zuI u 13) rfl dX4_multiplier_32 rfl ?_
        refine zj_iconst 36 X (v := 1) dX4_multiplier_35 (by decide) rfl ?_
        refine zj_join 51 [(0, .ref (a 0)), (1, .int (if 1 ≤ (zuI u 13) then x1 + 1 else if (zf_X4_hasOneSidePoints u 90) = 0 then x1 else x1 + 1))] [] ?_ (fun J7 => ?_)
        · have L8 : ∀ (x1 : Int32), zk_X4_multiplier_51 u x1 = V → zJ p l e zR_X4_multiplier s m ([.ref (a 0)] : List Value).toArray below meth c 0 0 (MQ below (vp_Si (fun r => r = V)) ([.ref (a 0)] : List Value).toArray s 0 0 (fun _ => False)) D (zk_K0 s) 2 (zS C a u) 51 [(0, .ref (a 0)), (1, .int (x1))] [] := by
            intro x1 hv
            unfold zk_X4_multiplier_51 at hv
            refine zj_aload_n 52 X 0 dX4_multiplier_51 rfl rfl ?_
            refine zg_RX4_148 55 X (w := zuI u 13) rfl dX4_multiplier_52 rfl ?_
            refine zj_iconst 56 X (v := 2) dX4_multiplier_55 (by decide) rfl ?_
            refine zj_join 69 [(0, .ref (a 0)), (1, .int (if 2 ≤ (zuI u 13) then x1 + 1 else if (zf_X4_hasOneSideAllTricks u) = 0 then x1 else x1 + 1))] [] ?_ (fun J11 => ?_)
            · refine zj_iload_n 70 X 1 dX4_multiplier_69 rfl rfl ?_
              refine zj_aload_n 71 X 0 dX4_multiplier_70 rfl rfl ?_
              refine zg_RX4_148 74 X (w := zuI u 13) rfl dX4_multiplier_71 rfl ?_
              refine zj_iadd 75 X dX4_multiplier_74 rfl ?_
              exact ze_i X Y hv dX4_multiplier_75
            · refine zj_icmp_ge 59 66 X dX4_multiplier_56 (by decide) rfl (fun c12 => ?_) (fun c12 => ?_)
              · refine zj_iinc 69 X (v := x1 + 1) (lv1 := [(0, .ref (a 0)), (1, .int (x1 + 1))]) 1 [1, 0] dX4_multiplier_66 rfl rfl (by decide) rfl rfl ?_
                simpa only [if_pos c12] using J11
              · refine zj_aload_n 60 X 0 dX4_multiplier_59 rfl rfl ?_
                refine zc_i 63 (zr_V (As := []) (rest := []) X (zc_X4_hasOneSideAllTricks (l := l) (u := u)) zw_X4_300 zn_X4_hasOneSideAllTricks (zcR_of rfl) zO_S0 zsI rfl (Nat.le_of_ble_eq_true rfl) dX4_multiplier_60) rfl ?_
                refine zj_if_eq 66 69 X dX4_multiplier_63 (by decide) rfl (fun c13 => ?_) (fun c13 => ?_)
                · simpa only [if_neg c12, if_pos c13] using J11
                · refine zj_iinc 69 X (v := x1 + 1) (lv1 := [(0, .ref (a 0)), (1, .int (x1 + 1))]) 1 [1, 0] dX4_multiplier_66 rfl rfl (by decide) rfl rfl ?_
                  simpa only [if_neg c12, if_neg c13] using J11
          exact L8 (if 1 ≤ (zuI u 13) then x1 + 1 else if (zf_X4_hasOneSidePoints u 90) = 0 then x1 else x1 + 1)  hv
        · refine zj_icmp_ge 39 48 X dX4_multiplier_36 (by decide) rfl (fun c14 => ?_) (fun c14 => ?_)
          · refine zj_iinc 51 X (v := x1 + 1) (lv1 := [(0, .ref (a 0)), (1, .int (x1 + 1))]) 1 [1, 0] dX4_multiplier_48 rfl rfl (by decide) rfl rfl ?_
            simpa only [if_pos c14] using J7
          · refine zj_aload_n 40 X 0 dX4_multiplier_39 rfl rfl ?_
            refine zj_bipush 42 X (v := 90) dX4_multiplier_40 (by decide) rfl ?_
            refine zc_i 45 (zr_V (As := [.int (90)]) (rest := []) X (zc_X4_hasOneSidePoints (l := l) (p0 := 90) (u := u)) zw_X4_297 zn_X4_hasOneSidePoints (zcR_of rfl) zO_S0 zsI rfl (Nat.le_of_ble_eq_true rfl) dX4_multiplier_42) rfl ?_
            refine zj_if_eq 48 51 X dX4_multiplier_45 (by decide) rfl (fun c15 => ?_) (fun c15 => ?_)
            · simpa only [if_neg c14, if_pos c15] using J7
            · refine zj_iinc 51 X (v := x1 + 1) (lv1 := [(0, .ref (a 0)), (1, .int (x1 + 1))]) 1 [1, 0] dX4_multiplier_48 rfl rfl (by decide) rfl rfl ?_
              simpa only [if_neg c14, if_neg c15] using J7
      exact L4 (if (zuI u 14) = 0 then x1 else x1 + 1)  hv
    · refine zj_if_eq 28 31 X dX4_multiplier_25 (by decide) rfl (fun c16 => ?_) (fun c16 => ?_)
      · simpa only [if_pos c16] using J3
      · refine zj_iinc 31 X (v := x1 + 1) (lv1 := [(0, .ref (a 0)), (1, .int (x1 + 1))]) 1 [1, 0] dX4_multiplier_28 rfl rfl (by decide) rfl rfl ?_
        simpa only [if_neg c16] using J3
  exact L1 ((if 0 ≤ zf_X1_runOfTrumps (zf_X4_cardsForMatadors u (zuI u 11)) (zuI u 12) then zf_X1_runOfTrumps (zf_X4_cardsForMatadors u (zuI u 11)) (zuI u 12) else 0 - zf_X1_runOfTrumps (zf_X4_cardsForMatadors u (zuI u 11)) (zuI u 12)) + 1)  hv
def zf_X4_valueBeforeRaising (u : zU) : Int32 := if (zuI u 12) = 5 then zf_X4_nullValue u else (zf_X4_baseValue u) * (zf_X4_multiplier u)
abbrev zR_X4_valueBeforeRaising : Room := { frames := 3, cells := 0, slots := 0, locals := 67 }
set_option maxHeartbeats 4000000 in
set_option maxRecDepth 100000 in
theorem zc_X4_valueBeforeRaising {l : Launch} {D : va_G} {C : ClassId × ClassId} {a : Nat → Nat} {u : zU} : zk_Mp l yX4_valueBeforeRaising cX4_valueBeforeRaising 1 (some .int) zR_X4_valueBeforeRaising [.ref (a 0)] (zS C a u) D C (vp_Si (fun r => r = zf_X4_valueBeforeRaising u)) := by
  refine zk_mp (by decide) (Nat.le_of_ble_eq_true rfl) ?_
  intro p e s m below meth c X Y
  generalize hv : zf_X4_valueBeforeRaising u = V
  unfold zf_X4_valueBeforeRaising at hv
  show zJ _ _ _ _ _ _ _ _ _ _ _ _ _ _ _ _ _ 0 [(0, .ref (a 0))] []
  refine zj_aload_n 1 X 0 dX4_valueBeforeRaising_0 rfl rfl ?_
  refine zg_RX4_158 4 X (w := zuI u 12) rfl dX4_valueBeforeRaising_1 rfl ?_
  refine zj_iconst 5 X (v := 5) dX4_valueBeforeRaising_4 (by decide) rfl ?_
  refine zj_icmp_ne 8 15 X dX4_valueBeforeRaising_5 (by decide) rfl (fun c1 => ?_) (fun c1 => ?_)
  · rw [if_neg c1] at hv
    refine zj_aload_n 16 X 0 dX4_valueBeforeRaising_15 rfl rfl ?_
    refine zc_i 19 (zr_V (As := []) (rest := []) X (zc_X4_baseValue (l := l) (u := u)) zw_X4_288 zn_X4_baseValue (zcR_of rfl) zO_S0 zsI rfl (Nat.le_of_ble_eq_true rfl) dX4_valueBeforeRaising_16) rfl ?_
    refine zj_aload_n 20 X 0 dX4_valueBeforeRaising_19 rfl rfl ?_
    refine zc_i 23 (zr_V (As := []) (rest := [.int (zf_X4_baseValue u)]) X (zc_X4_multiplier (l := l) (u := u)) zw_X4_291 zn_X4_multiplier (zcR_of rfl) zO_S0 zsI rfl (Nat.le_of_ble_eq_true rfl) dX4_valueBeforeRaising_20) rfl ?_
    refine zj_imul 24 X dX4_valueBeforeRaising_23 rfl ?_
    exact ze_i X Y hv dX4_valueBeforeRaising_24
  · rw [if_pos c1] at hv
    refine zj_aload_n 9 X 0 dX4_valueBeforeRaising_8 rfl rfl ?_
    refine zc_i 12 (zr_V (As := []) (rest := []) X (zc_X4_nullValue (l := l) (u := u)) zw_X4_285 zn_X4_nullValue (zcR_of rfl) zO_S0 zsI rfl (Nat.le_of_ble_eq_true rfl) dX4_valueBeforeRaising_9) rfl ?_
    refine zj_goto 24 X dX4_valueBeforeRaising_12 (by decide) ?_
    exact ze_i X Y hv dX4_valueBeforeRaising_24
def zf_X4_raisedToBid (u : zU) (p0 : Int32) : Int32 := if (zuI u 10) ≤ p0 then p0 else (if (zuI u 12) = 5 then p0 else (if 0 < (zf_X4_baseValue u) then ((((zuI u 10) + (zf_X4_baseValue u)) - 1) / (zf_X4_baseValue u)) * (zf_X4_baseValue u) else p0))
abbrev zR_X4_raisedToBid : Room := { frames := 1, cells := 0, slots := 0, locals := 20 }
set_option maxHeartbeats 4000000 in
set_option maxRecDepth 100000 in
theorem zc_X4_raisedToBid {l : Launch} {D : va_G} {C : ClassId × ClassId} {a : Nat → Nat} {u : zU} {p0 : Int32} : zk_Mp l yX4_raisedToBid cX4_raisedToBid 3 (some .int) zR_X4_raisedToBid [.ref (a 0), .int (p0)] (zS C a u) D C (vp_Si (fun r => r = zf_X4_raisedToBid u p0)) := by
  refine zk_mp (by decide) (Nat.le_of_ble_eq_true rfl) ?_
  intro p e s m below meth c X Y
  generalize hv : zf_X4_raisedToBid u p0 = V
  unfold zf_X4_raisedToBid at hv
  show zJ _ _ _ _ _ _ _ _ _ _ _ _ _ _ _ _ _ 0 [(0, .ref (a 0)), (1, .int (p0))] []
  refine zj_aload_n 1 X 0 dX4_raisedToBid_0 rfl rfl ?_
  refine zc_i 4 (zr_V (As := []) (rest := []) X (zc_X4_baseValue (l := l) (u := u)) zw_X4_288 zn_X4_baseValue (zcR_of rfl) zO_S0 zsI rfl (Nat.le_of_ble_eq_true rfl) dX4_raisedToBid_1) rfl ?_
  refine zj_istore_n 5 X (lv1 := [(0, .ref (a 0)), (1, .int (p0)), (2, .int (zf_X4_baseValue u))]) [1, 2, 0] dX4_raisedToBid_4 (by decide) rfl rfl ?_
  refine zj_iload_n 6 X 1 dX4_raisedToBid_5 rfl rfl ?_
  refine zj_aload_n 7 X 0 dX4_raisedToBid_6 rfl rfl ?_
  refine zg_RX4_66 10 X (w := zuI u 10) rfl dX4_raisedToBid_7 rfl ?_
  refine zj_icmp_ge 13 25 X dX4_raisedToBid_10 (by decide) rfl (fun c1 => ?_) (fun c1 => ?_)
  · rw [if_pos c1] at hv
    refine zj_iload_n 26 X 1 dX4_raisedToBid_25 rfl rfl ?_
    exact ze_i X Y hv dX4_raisedToBid_26
  · rw [if_neg c1] at hv
    refine zj_aload_n 14 X 0 dX4_raisedToBid_13 rfl rfl ?_
    refine zg_RX4_158 17 X (w := zuI u 12) rfl dX4_raisedToBid_14 rfl ?_
    refine zj_iconst 18 X (v := 5) dX4_raisedToBid_17 (by decide) rfl ?_
    refine zj_icmp_eq 21 25 X dX4_raisedToBid_18 (by decide) rfl (fun c2 => ?_) (fun c2 => ?_)
    · rw [if_pos c2] at hv
      refine zj_iload_n 26 X 1 dX4_raisedToBid_25 rfl rfl ?_
      exact ze_i X Y hv dX4_raisedToBid_26
    · rw [if_neg c2] at hv
      refine zj_iload_n 22 X 2 dX4_raisedToBid_21 rfl rfl ?_
      refine zj_if_gt 25 27 X dX4_raisedToBid_22 (by decide) rfl (fun c3 => ?_) (fun c3 => ?_)
      · rw [if_pos c3] at hv
        refine zj_aload_n 28 X 0 dX4_raisedToBid_27 rfl rfl ?_
        refine zg_RX4_66 31 X (w := zuI u 10) rfl dX4_raisedToBid_28 rfl ?_
        refine zj_iload_n 32 X 2 dX4_raisedToBid_31 rfl rfl ?_
        refine zj_iadd 33 X dX4_raisedToBid_32 rfl ?_
        refine zj_iconst 34 X (v := 1) dX4_raisedToBid_33 (by decide) rfl ?_
        refine zj_isub 35 X dX4_raisedToBid_34 rfl ?_
        refine zj_iload_n 36 X 2 dX4_raisedToBid_35 rfl rfl ?_
        refine zj_idiv 37 X dX4_raisedToBid_36 (fun e9 => by rw [e9] at c3; exact absurd c3 (by decide)) rfl ?_
        refine zj_iload_n 38 X 2 dX4_raisedToBid_37 rfl rfl ?_
        refine zj_imul 39 X dX4_raisedToBid_38 rfl ?_
        exact ze_i X Y hv dX4_raisedToBid_39
      · rw [if_neg c3] at hv
        refine zj_iload_n 26 X 1 dX4_raisedToBid_25 rfl rfl ?_
        exact ze_i X Y hv dX4_raisedToBid_26
def zf_X4_isAimReached (u : zU) : Int32 := if (zuI u 12) = 5 then (if (zuT u (zf_X4_seat u (zuI u 11))) = 0 then 1 else 0) else (if (zuI u 13) < 2 then (if (zuI u 13) = 1 then (if (zuP u (zf_X4_seat u (zuI u 11))) < 90 then 0 else 1) else (if (zuP u (zf_X4_seat u (zuI u 11))) < 61 then 0 else 1)) else (if (zuT u (zf_X4_seat u (zuI u 11))) = 10 then 1 else 0))
abbrev zR_X4_isAimReached : Room := { frames := 1, cells := 0, slots := 0, locals := 21 }
set_option maxHeartbeats 4000000 in
set_option maxRecDepth 100000 in
theorem zc_X4_isAimReached {l : Launch} {D : va_G} {C : ClassId × ClassId} {a : Nat → Nat} {u : zU} : zk_Mp l yX4_isAimReached cX4_isAimReached 2 (some .boolean) zR_X4_isAimReached [.ref (a 0)] (zS C a u) D C (vp_Si (fun r => r = zf_X4_isAimReached u)) := by
  refine zk_mp (by decide) (Nat.le_of_ble_eq_true rfl) ?_
  intro p e s m below meth c X Y
  generalize hv : zf_X4_isAimReached u = V
  unfold zf_X4_isAimReached at hv
  show zJ _ _ _ _ _ _ _ _ _ _ _ _ _ _ _ _ _ 0 [(0, .ref (a 0))] []
  refine zj_aload_n 1 X 0 dX4_isAimReached_0 rfl rfl ?_
  refine zj_aload_n 2 X 0 dX4_isAimReached_1 rfl rfl ?_
  refine zg_RX4_98 5 X (w := zuI u 11) rfl dX4_isAimReached_2 rfl ?_
  refine zc_r 8 (ad := fun k => .ref (a (1 + k))) (zr_V (As := [.int (zuI u 11)]) (rest := []) X (zc_X4_seat (l := l) (p0 := zuI u 11) (u := u)) zw_X4_107 zn_X4_seat (zcR_of rfl) zO_S0 zsI rfl (Nat.le_of_ble_eq_true rfl) dX4_isAimReached_5) rfl ?_
  refine zj_astore_n 9 X (lv1 := [(0, .ref (a 0)), (1, .ref (a (1 + zf_X4_seat u (zuI u 11))))]) [1, 0] dX4_isAimReached_8 (by decide) rfl rfl ?_
  refine zj_aload_n 10 X 0 dX4_isAimReached_9 rfl rfl ?_
  refine zg_RX4_158 13 X (w := zuI u 12) rfl dX4_isAimReached_10 rfl ?_
  refine zj_iconst 14 X (v := 5) dX4_isAimReached_13 (by decide) rfl ?_
  refine zj_icmp_ne 17 30 X dX4_isAimReached_14 (by decide) rfl (fun c1 => ?_) (fun c1 => ?_)
  · rw [if_neg c1] at hv
    refine zj_aload_n 31 X 0 dX4_isAimReached_30 rfl rfl ?_
    refine zg_RX4_148 34 X (w := zuI u 13) rfl dX4_isAimReached_31 rfl ?_
    refine zj_iconst 35 X (v := 2) dX4_isAimReached_34 (by decide) rfl ?_
    refine zj_icmp_lt 38 53 X dX4_isAimReached_35 (by decide) rfl (fun c2 => ?_) (fun c2 => ?_)
    · rw [if_pos c2] at hv
      refine zj_aload_n 54 X 1 dX4_isAimReached_53 rfl rfl ?_
      refine zg_RX4_155 57 (zf_X4_seat u (zuI u 11)) (zseat_lt _ _) X (w := zuP u (zf_X4_seat u (zuI u 11))) rfl dX4_isAimReached_54 rfl ?_
      refine zj_aload_n 58 X 0 dX4_isAimReached_57 rfl rfl ?_
      refine zg_RX4_148 61 X (w := zuI u 13) rfl dX4_isAimReached_58 rfl ?_
      refine zj_iconst 62 X (v := 1) dX4_isAimReached_61 (by decide) rfl ?_
      refine zj_icmp_ne 65 70 X dX4_isAimReached_62 (by decide) rfl (fun c3 => ?_) (fun c3 => ?_)
      · rw [if_neg c3] at hv
        refine zj_bipush 72 X (v := 61) dX4_isAimReached_70 (by decide) rfl ?_
        refine zj_icmp_lt 75 79 X dX4_isAimReached_72 (by decide) rfl (fun c4 => ?_) (fun c4 => ?_)
        · rw [if_pos c4] at hv
          refine zj_iconst 80 X (v := 0) dX4_isAimReached_79 (by decide) rfl ?_
          exact ze_z X Y (by decide) hv dX4_isAimReached_80
        · rw [if_neg c4] at hv
          refine zj_iconst 76 X (v := 1) dX4_isAimReached_75 (by decide) rfl ?_
          refine zj_goto 80 X dX4_isAimReached_76 (by decide) ?_
          exact ze_z X Y (by decide) hv dX4_isAimReached_80
      · rw [if_pos c3] at hv
        refine zj_bipush 67 X (v := 90) dX4_isAimReached_65 (by decide) rfl ?_
        refine zj_goto 72 X dX4_isAimReached_67 (by decide) ?_
        refine zj_icmp_lt 75 79 X dX4_isAimReached_72 (by decide) rfl (fun c5 => ?_) (fun c5 => ?_)
        · rw [if_pos c5] at hv
          refine zj_iconst 80 X (v := 0) dX4_isAimReached_79 (by decide) rfl ?_
          exact ze_z X Y (by decide) hv dX4_isAimReached_80
        · rw [if_neg c5] at hv
          refine zj_iconst 76 X (v := 1) dX4_isAimReached_75 (by decide) rfl ?_
          refine zj_goto 80 X dX4_isAimReached_76 (by decide) ?_
          exact ze_z X Y (by decide) hv dX4_isAimReached_80
    · rw [if_neg c2] at hv
      refine zj_aload_n 39 X 1 dX4_isAimReached_38 rfl rfl ?_
      refine zg_RX4_215 42 (zf_X4_seat u (zuI u 11)) (zseat_lt _ _) X (w := zuT u (zf_X4_seat u (zuI u 11))) rfl dX4_isAimReached_39 rfl ?_
      refine zj_bipush 44 X (v := 10) dX4_isAimReached_42 (by decide) rfl ?_
      refine zj_icmp_ne 47 51 X dX4_isAimReached_44 (by decide) rfl (fun c6 => ?_) (fun c6 => ?_)
      · rw [if_neg c6] at hv
        refine zj_iconst 52 X (v := 0) dX4_isAimReached_51 (by decide) rfl ?_
        exact ze_z X Y (by decide) hv dX4_isAimReached_52
      · rw [if_pos c6] at hv
        refine zj_iconst 48 X (v := 1) dX4_isAimReached_47 (by decide) rfl ?_
        refine zj_goto 52 X dX4_isAimReached_48 (by decide) ?_
        exact ze_z X Y (by decide) hv dX4_isAimReached_52
  · rw [if_pos c1] at hv
    refine zj_aload_n 18 X 1 dX4_isAimReached_17 rfl rfl ?_
    refine zg_RX4_215 21 (zf_X4_seat u (zuI u 11)) (zseat_lt _ _) X (w := zuT u (zf_X4_seat u (zuI u 11))) rfl dX4_isAimReached_18 rfl ?_
    refine zj_if_ne 24 28 X dX4_isAimReached_21 (by decide) rfl (fun c7 => ?_) (fun c7 => ?_)
    · rw [if_neg c7] at hv
      refine zj_iconst 29 X (v := 0) dX4_isAimReached_28 (by decide) rfl ?_
      exact ze_z X Y (by decide) hv dX4_isAimReached_29
    · rw [if_pos c7] at hv
      refine zj_iconst 25 X (v := 1) dX4_isAimReached_24 (by decide) rfl ?_
      refine zj_goto 29 X dX4_isAimReached_25 (by decide) ?_
      exact ze_z X Y (by decide) hv dX4_isAimReached_29
def zf_X4_scoreRamsch (u : zU) : zU := (zf_X2_loseRamschWith (zf_X2_loseRamschWith (zf_X2_loseRamschWith u 0 (zf_X4_mostPoints u)) 1 (zf_X4_mostPoints u)) 2 (zf_X4_mostPoints u))
abbrev zR_X4_scoreRamsch : Room := { frames := 2, cells := 0, slots := 0, locals := 50 }
set_option maxHeartbeats 4000000 in
set_option maxRecDepth 100000 in
theorem zc_X4_scoreRamsch {l : Launch} {D : va_G} {C : ClassId × ClassId} {a : Nat → Nat} {u : zU} : zk_Mm l yX4_scoreRamsch cX4_scoreRamsch 2 none zR_X4_scoreRamsch [.ref (a 0)] (zS C a u) D C (fun A => va_Qv (fun u' => u' = zf_X4_scoreRamsch u) (fun u' t => va_P D vwCl (zS C a u') t.heap) A) := by
  refine zk_mm (by decide) (Nat.le_of_ble_eq_true rfl) ?_
  intro p e s m below meth c A X Y hD hA
  generalize hv : zf_X4_scoreRamsch u = V
  unfold zf_X4_scoreRamsch at hv
  show zJ _ _ _ _ _ _ _ _ _ _ _ _ _ _ _ _ _ 0 [(0, .ref (a 0))] []
  refine zj_aload_n 1 X 0 dX4_scoreRamsch_0 rfl rfl ?_
  refine zc_i 4 (zr_V (As := []) (rest := []) X (zc_X4_mostPoints (l := l) (u := u)) zw_X4_220 zn_X4_mostPoints (zcR_of rfl) zO_S0 zsI rfl (Nat.le_of_ble_eq_true rfl) dX4_scoreRamsch_1) rfl ?_
  refine zj_istore_n 5 X (lv1 := [(0, .ref (a 0)), (1, .int (zf_X4_mostPoints u))]) [1, 0] dX4_scoreRamsch_4 (by decide) rfl rfl ?_
  refine zj_aload_n 6 X 0 dX4_scoreRamsch_5 rfl rfl ?_
  refine zg_RX4_10 9 X dX4_scoreRamsch_6 rfl ?_
  refine zj_iload_n 10 X 1 dX4_scoreRamsch_9 rfl rfl ?_
  refine zc_vm 13 (Wd := zS C a) (zr_VNm (As := [.int (zf_X4_mostPoints u)]) (rest := []) X (zc_X2_loseRamschWith (l := l) (j := 0) (p0 := zf_X4_mostPoints u) (u := u) (hj := (by decide))) zw_X4_279 zn_X2_loseRamschWith (zcR_of rfl) (zO_T (j := 0) (by decide)) (zD_S _ hD) hA rfl (Nat.le_of_ble_eq_true rfl) dX4_scoreRamsch_10) (zD_S _ hD) hA rfl ?_
  refine zj_aload_n 14 X 0 dX4_scoreRamsch_13 rfl rfl ?_
  refine zg_RX4_16 17 X dX4_scoreRamsch_14 rfl ?_
  refine zj_iload_n 18 X 1 dX4_scoreRamsch_17 rfl rfl ?_
  refine zc_vm 21 (Wd := zS C a) (zr_VNm (As := [.int (zf_X4_mostPoints u)]) (rest := []) X (zc_X2_loseRamschWith (l := l) (j := 1) (p0 := zf_X4_mostPoints u) (u := (zf_X2_loseRamschWith u 0 (zf_X4_mostPoints u))) (hj := (by decide))) zw_X4_279 zn_X2_loseRamschWith (zcR_of rfl) (zO_T (j := 1) (by decide)) (zD_S _ hD) hA rfl (Nat.le_of_ble_eq_true rfl) dX4_scoreRamsch_18) (zD_S _ hD) hA rfl ?_
  refine zj_aload_n 22 X 0 dX4_scoreRamsch_21 rfl rfl ?_
  refine zg_RX4_19 25 X dX4_scoreRamsch_22 rfl ?_
  refine zj_iload_n 26 X 1 dX4_scoreRamsch_25 rfl rfl ?_
  refine zc_vm 29 (Wd := zS C a) (zr_VNm (As := [.int (zf_X4_mostPoints u)]) (rest := []) X (zc_X2_loseRamschWith (l := l) (j := 2) (p0 := zf_X4_mostPoints u) (u := (zf_X2_loseRamschWith (zf_X2_loseRamschWith u 0 (zf_X4_mostPoints u)) 1 (zf_X4_mostPoints u))) (hj := (by decide))) zw_X4_279 zn_X2_loseRamschWith (zcR_of rfl) (zO_T (j := 2) (by decide)) (zD_S _ hD) hA rfl (Nat.le_of_ble_eq_true rfl) dX4_scoreRamsch_26) (zD_S _ hD) hA rfl ?_
  exact ze_vm (Wd := zS C a) (u := (zf_X2_loseRamschWith (zf_X2_loseRamschWith (zf_X2_loseRamschWith u 0 (zf_X4_mostPoints u)) 1 (zf_X4_mostPoints u)) 2 (zf_X4_mostPoints u))) X Y hv dX4_scoreRamsch_29
def zf_X4_scoreGame (u : zU) : zU := if (zf_X4_valueBeforeRaising u) < (zuI u 10) then zuO1 u (zf_X4_seat u (zuI u 11)) ((zuO u (zf_X4_seat u (zuI u 11))) + ((-2) * (zf_X4_raisedToBid u (zf_X4_valueBeforeRaising u)))) else (if (zf_X4_isAimReached u) = 0 then zuO1 u (zf_X4_seat u (zuI u 11)) ((zuO u (zf_X4_seat u (zuI u 11))) + ((-2) * (zf_X4_raisedToBid u (zf_X4_valueBeforeRaising u)))) else zuO1 u (zf_X4_seat u (zuI u 11)) ((zuO u (zf_X4_seat u (zuI u 11))) + (zf_X4_raisedToBid u (zf_X4_valueBeforeRaising u))))
abbrev zR_X4_scoreGame : Room := { frames := 4, cells := 0, slots := 0, locals := 87 }
set_option maxHeartbeats 4000000 in
set_option maxRecDepth 100000 in
theorem zc_X4_scoreGame {l : Launch} {D : va_G} {C : ClassId × ClassId} {a : Nat → Nat} {u : zU} : zk_Mm l yX4_scoreGame cX4_scoreGame 4 none zR_X4_scoreGame [.ref (a 0)] (zS C a u) D C (fun A => va_Qv (fun u' => u' = zf_X4_scoreGame u) (fun u' t => va_P D vwCl (zS C a u') t.heap) A) := by
  refine zk_mm (by decide) (Nat.le_of_ble_eq_true rfl) ?_
  intro p e s m below meth c A X Y hD hA
  generalize hv : zf_X4_scoreGame u = V
  unfold zf_X4_scoreGame at hv
  show zJ _ _ _ _ _ _ _ _ _ _ _ _ _ _ _ _ _ 0 [(0, .ref (a 0))] []
  refine zj_aload_n 1 X 0 dX4_scoreGame_0 rfl rfl ?_
  refine zc_i 4 (zr_V (As := []) (rest := []) X (zc_X4_valueBeforeRaising (l := l) (u := u)) zw_X4_223 zn_X4_valueBeforeRaising (zcR_of rfl) zO_S0 zsI rfl (Nat.le_of_ble_eq_true rfl) dX4_scoreGame_1) rfl ?_
  refine zj_istore_n 5 X (lv1 := [(0, .ref (a 0)), (1, .int (zf_X4_valueBeforeRaising u))]) [1, 0] dX4_scoreGame_4 (by decide) rfl rfl ?_
  refine zj_aload_n 6 X 0 dX4_scoreGame_5 rfl rfl ?_
  refine zj_iload_n 7 X 1 dX4_scoreGame_6 rfl rfl ?_
  refine zc_i 10 (zr_V (As := [.int (zf_X4_valueBeforeRaising u)]) (rest := []) X (zc_X4_raisedToBid (l := l) (p0 := zf_X4_valueBeforeRaising u) (u := u)) zw_X4_226 zn_X4_raisedToBid (zcR_of rfl) zO_S0 zsI rfl (Nat.le_of_ble_eq_true rfl) dX4_scoreGame_7) rfl ?_
  refine zj_istore_n 11 X (lv1 := [(0, .ref (a 0)), (1, .int (zf_X4_valueBeforeRaising u)), (2, .int (zf_X4_raisedToBid u (zf_X4_valueBeforeRaising u)))]) [1, 2, 0] dX4_scoreGame_10 (by decide) rfl rfl ?_
  refine zj_iload_n 12 X 1 dX4_scoreGame_11 rfl rfl ?_
  refine zj_aload_n 13 X 0 dX4_scoreGame_12 rfl rfl ?_
  refine zg_RX4_66 16 X (w := zuI u 10) rfl dX4_scoreGame_13 rfl ?_
  refine zj_icmp_lt 19 30 X dX4_scoreGame_16 (by decide) rfl (fun c1 => ?_) (fun c1 => ?_)
  · rw [if_pos c1] at hv
    refine zj_iconst 31 X (v := 0) dX4_scoreGame_30 (by decide) rfl ?_
    refine zj_istore_n 32 X (lv1 := [(0, .ref (a 0)), (1, .int (zf_X4_valueBeforeRaising u)), (2, .int (zf_X4_raisedToBid u (zf_X4_valueBeforeRaising u))), (3, .int (0))]) [1, 2, 3, 0] dX4_scoreGame_31 (by decide) rfl rfl ?_
    refine zj_aload_n 33 X 0 dX4_scoreGame_32 rfl rfl ?_
    refine zj_aload_n 34 X 0 dX4_scoreGame_33 rfl rfl ?_
    refine zg_RX4_98 37 X (w := zuI u 11) rfl dX4_scoreGame_34 rfl ?_
    refine zc_r 40 (ad := fun k => .ref (a (1 + k))) (zr_V (As := [.int (zuI u 11)]) (rest := []) X (zc_X4_seat (l := l) (p0 := zuI u 11) (u := u)) zw_X4_107 zn_X4_seat (zcR_of rfl) zO_S0 zsI rfl (Nat.le_of_ble_eq_true rfl) dX4_scoreGame_37) rfl ?_
    refine zj_dup 41 X dX4_scoreGame_40 rfl rfl ?_
    refine zg_RX4_229 44 (zf_X4_seat u (zuI u 11)) (zseat_lt _ _) X (w := zuO u (zf_X4_seat u (zuI u 11))) rfl dX4_scoreGame_41 rfl ?_
    refine zj_iload_n 45 X 3 dX4_scoreGame_44 rfl rfl ?_
    refine zj_if_eq 48 52 X dX4_scoreGame_45 (by decide) rfl (fun _ => ?_) (fun c2 => absurd c2 (by decide))
    refine zj_bipush 54 X (v := (-2)) dX4_scoreGame_52 (by decide) rfl ?_
    refine zj_iload_n 55 X 2 dX4_scoreGame_54 rfl rfl ?_
    refine zj_imul 56 X dX4_scoreGame_55 rfl ?_
    refine zj_iadd 57 X dX4_scoreGame_56 rfl ?_
    refine zp_RX4_229 60 (zf_X4_seat u (zuI u 11)) (zseat_lt _ _) X (zD_S _ hD) dX4_scoreGame_57 rfl ?_
    exact ze_vm (Wd := zS C a) (u := zuO1 u (zf_X4_seat u (zuI u 11)) ((zuO u (zf_X4_seat u (zuI u 11))) + ((-2) * (zf_X4_raisedToBid u (zf_X4_valueBeforeRaising u))))) X Y hv dX4_scoreGame_60
  · rw [if_neg c1] at hv
    refine zj_aload_n 20 X 0 dX4_scoreGame_19 rfl rfl ?_
    refine zc_i 23 (zr_V (As := []) (rest := []) X (zc_X4_isAimReached (l := l) (u := u)) zw_X4_282 zn_X4_isAimReached (zcR_of rfl) zO_S0 zsI rfl (Nat.le_of_ble_eq_true rfl) dX4_scoreGame_20) rfl ?_
    refine zj_if_eq 26 30 X dX4_scoreGame_23 (by decide) rfl (fun c3 => ?_) (fun c3 => ?_)
    · rw [if_pos c3] at hv
      refine zj_iconst 31 X (v := 0) dX4_scoreGame_30 (by decide) rfl ?_
      refine zj_istore_n 32 X (lv1 := [(0, .ref (a 0)), (1, .int (zf_X4_valueBeforeRaising u)), (2, .int (zf_X4_raisedToBid u (zf_X4_valueBeforeRaising u))), (3, .int (0))]) [1, 2, 3, 0] dX4_scoreGame_31 (by decide) rfl rfl ?_
      refine zj_aload_n 33 X 0 dX4_scoreGame_32 rfl rfl ?_
      refine zj_aload_n 34 X 0 dX4_scoreGame_33 rfl rfl ?_
      refine zg_RX4_98 37 X (w := zuI u 11) rfl dX4_scoreGame_34 rfl ?_
      refine zc_r 40 (ad := fun k => .ref (a (1 + k))) (zr_V (As := [.int (zuI u 11)]) (rest := []) X (zc_X4_seat (l := l) (p0 := zuI u 11) (u := u)) zw_X4_107 zn_X4_seat (zcR_of rfl) zO_S0 zsI rfl (Nat.le_of_ble_eq_true rfl) dX4_scoreGame_37) rfl ?_
      refine zj_dup 41 X dX4_scoreGame_40 rfl rfl ?_
      refine zg_RX4_229 44 (zf_X4_seat u (zuI u 11)) (zseat_lt _ _) X (w := zuO u (zf_X4_seat u (zuI u 11))) rfl dX4_scoreGame_41 rfl ?_
      refine zj_iload_n 45 X 3 dX4_scoreGame_44 rfl rfl ?_
      refine zj_if_eq 48 52 X dX4_scoreGame_45 (by decide) rfl (fun _ => ?_) (fun c4 => absurd c4 (by decide))
      refine zj_bipush 54 X (v := (-2)) dX4_scoreGame_52 (by decide) rfl ?_
      refine zj_iload_n 55 X 2 dX4_scoreGame_54 rfl rfl ?_
      refine zj_imul 56 X dX4_scoreGame_55 rfl ?_
      refine zj_iadd 57 X dX4_scoreGame_56 rfl ?_
      refine zp_RX4_229 60 (zf_X4_seat u (zuI u 11)) (zseat_lt _ _) X (zD_S _ hD) dX4_scoreGame_57 rfl ?_
      exact ze_vm (Wd := zS C a) (u := zuO1 u (zf_X4_seat u (zuI u 11)) ((zuO u (zf_X4_seat u (zuI u 11))) + ((-2) * (zf_X4_raisedToBid u (zf_X4_valueBeforeRaising u))))) X Y hv dX4_scoreGame_60
    · rw [if_neg c3] at hv
      refine zj_iconst 27 X (v := 1) dX4_scoreGame_26 (by decide) rfl ?_
      refine zj_goto 31 X dX4_scoreGame_27 (by decide) ?_
      refine zj_istore_n 32 X (lv1 := [(0, .ref (a 0)), (1, .int (zf_X4_valueBeforeRaising u)), (2, .int (zf_X4_raisedToBid u (zf_X4_valueBeforeRaising u))), (3, .int (1))]) [1, 2, 3, 0] dX4_scoreGame_31 (by decide) rfl rfl ?_
      refine zj_aload_n 33 X 0 dX4_scoreGame_32 rfl rfl ?_
      refine zj_aload_n 34 X 0 dX4_scoreGame_33 rfl rfl ?_
      refine zg_RX4_98 37 X (w := zuI u 11) rfl dX4_scoreGame_34 rfl ?_
      refine zc_r 40 (ad := fun k => .ref (a (1 + k))) (zr_V (As := [.int (zuI u 11)]) (rest := []) X (zc_X4_seat (l := l) (p0 := zuI u 11) (u := u)) zw_X4_107 zn_X4_seat (zcR_of rfl) zO_S0 zsI rfl (Nat.le_of_ble_eq_true rfl) dX4_scoreGame_37) rfl ?_
      refine zj_dup 41 X dX4_scoreGame_40 rfl rfl ?_
      refine zg_RX4_229 44 (zf_X4_seat u (zuI u 11)) (zseat_lt _ _) X (w := zuO u (zf_X4_seat u (zuI u 11))) rfl dX4_scoreGame_41 rfl ?_
      refine zj_iload_n 45 X 3 dX4_scoreGame_44 rfl rfl ?_
      refine zj_if_eq 48 52 X dX4_scoreGame_45 (by decide) rfl (fun c5 => absurd c5 (by decide)) (fun _ => ?_)
      refine zj_iload_n 49 X 2 dX4_scoreGame_48 rfl rfl ?_
      refine zj_goto 56 X dX4_scoreGame_49 (by decide) ?_
      refine zj_iadd 57 X dX4_scoreGame_56 rfl ?_
      refine zp_RX4_229 60 (zf_X4_seat u (zuI u 11)) (zseat_lt _ _) X (zD_S _ hD) dX4_scoreGame_57 rfl ?_
      exact ze_vm (Wd := zS C a) (u := zuO1 u (zf_X4_seat u (zuI u 11)) ((zuO u (zf_X4_seat u (zuI u 11))) + (zf_X4_raisedToBid u (zf_X4_valueBeforeRaising u)))) X Y hv dX4_scoreGame_60
def zf_X4_endDeal (u : zU) (p0 : Int32) : zU := if (zuI u 12) = 6 then (zf_X4_scoreRamsch (zuP1 (zuI1 (zuI1 u 6 6) 7 (-1)) (zf_X4_seat (zuI1 (zuI1 u 6 6) 7 (-1)) p0) ((zuP u (zf_X4_seat (zuI1 (zuI1 u 6 6) 7 (-1)) p0)) + (zf_X1_pointsIn (zuK u))))) else (zf_X4_scoreGame (zuI1 (zuI1 u 6 6) 7 (-1)))
abbrev zR_X4_endDeal : Room := { frames := 5, cells := 0, slots := 0, locals := 110 }
set_option maxHeartbeats 4000000 in
set_option maxRecDepth 100000 in
theorem zc_X4_endDeal {l : Launch} {D : va_G} {C : ClassId × ClassId} {a : Nat → Nat} {u : zU} {p0 : Int32} : zk_Mm l yX4_endDeal cX4_endDeal 2 none zR_X4_endDeal [.ref (a 0), .int (p0)] (zS C a u) D C (fun A => va_Qv (fun u' => u' = zf_X4_endDeal u p0) (fun u' t => va_P D vwCl (zS C a u') t.heap) A) := by
  refine zk_mm (by decide) (Nat.le_of_ble_eq_true rfl) ?_
  intro p e s m below meth c A X Y hD hA
  generalize hv : zf_X4_endDeal u p0 = V
  unfold zf_X4_endDeal at hv
  show zJ _ _ _ _ _ _ _ _ _ _ _ _ _ _ _ _ _ 0 [(0, .ref (a 0)), (1, .int (p0))] []
  refine zj_aload_n 1 X 0 dX4_endDeal_0 rfl rfl ?_
  refine zj_bipush 3 X (v := 6) dX4_endDeal_1 (by decide) rfl ?_
  refine zp_RX4_52 6 X (zD_S _ hD) dX4_endDeal_3 rfl ?_
  refine zj_aload_n 7 X 0 dX4_endDeal_6 rfl rfl ?_
  refine zj_iconst 8 X (v := (-1)) dX4_endDeal_7 (by decide) rfl ?_
  refine zp_RX4_55 11 X (zD_S _ hD) dX4_endDeal_8 rfl ?_
  refine zj_aload_n 12 X 0 dX4_endDeal_11 rfl rfl ?_
  refine zg_RX4_158 15 X (w := zuI u 12) rfl dX4_endDeal_12 rfl ?_
  refine zj_bipush 17 X (v := 6) dX4_endDeal_15 (by decide) rfl ?_
  refine zj_icmp_ne 20 47 X dX4_endDeal_17 (by decide) rfl (fun c1 => ?_) (fun c1 => ?_)
  · rw [if_neg c1] at hv
    refine zj_aload_n 48 X 0 dX4_endDeal_47 rfl rfl ?_
    refine zc_vm 51 (Wd := zS C a) (zr_Vm (As := []) (rest := []) X (zc_X4_scoreGame (l := l) (u := zuI1 (zuI1 u 6 6) 7 (-1))) zw_X4_276 zn_X4_scoreGame (zcR_of rfl) zO_S0 (zD_S _ hD) hA rfl (Nat.le_of_ble_eq_true rfl) dX4_endDeal_48) (zD_S _ hD) hA rfl ?_
    exact ze_vm (Wd := zS C a) (u := (zf_X4_scoreGame (zuI1 (zuI1 u 6 6) 7 (-1)))) X Y hv dX4_endDeal_51
  · rw [if_pos c1] at hv
    refine zj_aload_n 21 X 0 dX4_endDeal_20 rfl rfl ?_
    refine zj_iload_n 22 X 1 dX4_endDeal_21 rfl rfl ?_
    refine zc_r 25 (ad := fun k => .ref (a (1 + k))) (zr_V (As := [.int (p0)]) (rest := []) X (zc_X4_seat (l := l) (p0 := p0) (u := zuI1 (zuI1 u 6 6) 7 (-1))) zw_X4_107 zn_X4_seat (zcR_of rfl) zO_S0 zsI rfl (Nat.le_of_ble_eq_true rfl) dX4_endDeal_22) rfl ?_
    refine zj_dup 26 X dX4_endDeal_25 rfl rfl ?_
    refine zg_RX4_155 29 (zf_X4_seat (zuI1 (zuI1 u 6 6) 7 (-1)) p0) (zseat_lt _ _) X (w := zuP u (zf_X4_seat (zuI1 (zuI1 u 6 6) 7 (-1)) p0)) rfl dX4_endDeal_26 rfl ?_
    refine zj_aload_n 30 X 0 dX4_endDeal_29 rfl rfl ?_
    refine zg_RX4_103 33 X (w := zuK u) rfl dX4_endDeal_30 rfl ?_
    refine zc_i 36 (zr_SN (As := [.long (zuK u)]) (rest := [.int (zuP u (zf_X4_seat (zuI1 (zuI1 u 6 6) 7 (-1)) p0)), .ref (a (1 + zf_X4_seat (zuI1 (zuI1 u 6 6) 7 (-1)) p0))]) X (zc_X1_pointsIn (l := l) (p0 := zuK u)) zw_X4_134 zn_X1_pointsIn (zcR_of rfl) zs0 rfl (Nat.le_of_ble_eq_true rfl) dX4_endDeal_33) rfl ?_
    refine zj_iadd 37 X dX4_endDeal_36 rfl ?_
    refine zp_RX4_155 40 (zf_X4_seat (zuI1 (zuI1 u 6 6) 7 (-1)) p0) (zseat_lt _ _) X (zD_S _ hD) dX4_endDeal_37 rfl ?_
    refine zj_aload_n 41 X 0 dX4_endDeal_40 rfl rfl ?_
    refine zc_vm 44 (Wd := zS C a) (zr_Vm (As := []) (rest := []) X (zc_X4_scoreRamsch (l := l) (u := zuP1 (zuI1 (zuI1 u 6 6) 7 (-1)) (zf_X4_seat (zuI1 (zuI1 u 6 6) 7 (-1)) p0) ((zuP u (zf_X4_seat (zuI1 (zuI1 u 6 6) 7 (-1)) p0)) + (zf_X1_pointsIn (zuK u))))) zw_X4_273 zn_X4_scoreRamsch (zcR_of rfl) zO_S0 (zD_S _ hD) hA rfl (Nat.le_of_ble_eq_true rfl) dX4_endDeal_41) (zD_S _ hD) hA rfl ?_
    refine zj_goto 51 X dX4_endDeal_44 (by decide) ?_
    exact ze_vm (Wd := zS C a) (u := (zf_X4_scoreRamsch (zuP1 (zuI1 (zuI1 u 6 6) 7 (-1)) (zf_X4_seat (zuI1 (zuI1 u 6 6) 7 (-1)) p0) ((zuP u (zf_X4_seat (zuI1 (zuI1 u 6 6) 7 (-1)) p0)) + (zf_X1_pointsIn (zuK u)))))) X Y hv dX4_endDeal_51
