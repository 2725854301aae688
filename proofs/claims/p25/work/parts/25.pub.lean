theorem znb {x : Int32} (h1 : ¬ x < 0) (h2 : x < 264) : x + 1 = nI (x.toNatClampNeg + 1) ∧ x.toNatClampNeg < 264 := by
  obtain ⟨j, hj, rfl⟩ := nI_of h1
  have h3 : j < 264 := by
    rcases Nat.lt_or_ge j 264 with h | h
    · exact h
    · exact absurd h2 ((show (264 : Int32) = nI 264 from rfl) ▸ nI_nlt h hj)
  rw [nI_clamp hj]
  exact ⟨nI_1 j, h3⟩
def zf_X4_phase (u : zU) : Int32 := zuI u 6
abbrev zR_X4_phase : Room := { frames := 0, cells := 0, slots := 0, locals := 0 }
set_option maxHeartbeats 4000000 in
set_option maxRecDepth 100000 in
theorem zc_X4_phase {l : Launch} {D : va_G} {C : ClassId × ClassId} {a : Nat → Nat} {u : zU} : zk_Mp l yX4_phase cX4_phase 1 (some .int) zR_X4_phase [.ref (a 0)] (zS C a u) D C (vp_Si (fun r => r = zf_X4_phase u)) := by
  refine zk_mp (by decide) (Nat.le_of_ble_eq_true rfl) ?_
  intro p e s m below meth c X Y
  generalize hv : zf_X4_phase u = V
  unfold zf_X4_phase at hv
  show zJ _ _ _ _ _ _ _ _ _ _ _ _ _ _ _ _ _ 0 [(0, .ref (a 0))] []
  refine zj_aload_n 1 X 0 dX4_phase_0 rfl rfl ?_
  refine zg_RX4_52 4 X (w := zuI u 6) rfl dX4_phase_1 rfl ?_
  exact ze_i X Y hv dX4_phase_4
def zf_X4_onTurn (u : zU) : Int32 := zuI u 7
abbrev zR_X4_onTurn : Room := { frames := 0, cells := 0, slots := 0, locals := 0 }
set_option maxHeartbeats 4000000 in
set_option maxRecDepth 100000 in
theorem zc_X4_onTurn {l : Launch} {D : va_G} {C : ClassId × ClassId} {a : Nat → Nat} {u : zU} : zk_Mp l yX4_onTurn cX4_onTurn 1 (some .int) zR_X4_onTurn [.ref (a 0)] (zS C a u) D C (vp_Si (fun r => r = zf_X4_onTurn u)) := by
  refine zk_mp (by decide) (Nat.le_of_ble_eq_true rfl) ?_
  intro p e s m below meth c X Y
  generalize hv : zf_X4_onTurn u = V
  unfold zf_X4_onTurn at hv
  show zJ _ _ _ _ _ _ _ _ _ _ _ _ _ _ _ _ _ 0 [(0, .ref (a 0))] []
  refine zj_aload_n 1 X 0 dX4_onTurn_0 rfl rfl ?_
  refine zg_RX4_55 4 X (w := zuI u 7) rfl dX4_onTurn_1 rfl ?_
  exact ze_i X Y hv dX4_onTurn_4
def zf_X4_latestBid (u : zU) : Int32 := zuI u 10
abbrev zR_X4_latestBid : Room := { frames := 0, cells := 0, slots := 0, locals := 0 }
set_option maxHeartbeats 4000000 in
set_option maxRecDepth 100000 in
theorem zc_X4_latestBid {l : Launch} {D : va_G} {C : ClassId × ClassId} {a : Nat → Nat} {u : zU} : zk_Mp l yX4_latestBid cX4_latestBid 1 (some .int) zR_X4_latestBid [.ref (a 0)] (zS C a u) D C (vp_Si (fun r => r = zf_X4_latestBid u)) := by
  refine zk_mp (by decide) (Nat.le_of_ble_eq_true rfl) ?_
  intro p e s m below meth c X Y
  generalize hv : zf_X4_latestBid u = V
  unfold zf_X4_latestBid at hv
  show zJ _ _ _ _ _ _ _ _ _ _ _ _ _ _ _ _ _ 0 [(0, .ref (a 0))] []
  refine zj_aload_n 1 X 0 dX4_latestBid_0 rfl rfl ?_
  refine zg_RX4_66 4 X (w := zuI u 10) rfl dX4_latestBid_1 rfl ?_
  exact ze_i X Y hv dX4_latestBid_4
def zf_X4_declarer (u : zU) : Int32 := zuI u 11
abbrev zR_X4_declarer : Room := { frames := 0, cells := 0, slots := 0, locals := 0 }
set_option maxHeartbeats 4000000 in
set_option maxRecDepth 100000 in
theorem zc_X4_declarer {l : Launch} {D : va_G} {C : ClassId × ClassId} {a : Nat → Nat} {u : zU} : zk_Mp l yX4_declarer cX4_declarer 1 (some .int) zR_X4_declarer [.ref (a 0)] (zS C a u) D C (vp_Si (fun r => r = zf_X4_declarer u)) := by
  refine zk_mp (by decide) (Nat.le_of_ble_eq_true rfl) ?_
  intro p e s m below meth c X Y
  generalize hv : zf_X4_declarer u = V
  unfold zf_X4_declarer at hv
  show zJ _ _ _ _ _ _ _ _ _ _ _ _ _ _ _ _ _ 0 [(0, .ref (a 0))] []
  refine zj_aload_n 1 X 0 dX4_declarer_0 rfl rfl ?_
  refine zg_RX4_98 4 X (w := zuI u 11) rfl dX4_declarer_1 rfl ?_
  exact ze_i X Y hv dX4_declarer_4
def zf_X4_contract (u : zU) : Int32 := zuI u 12
abbrev zR_X4_contract : Room := { frames := 0, cells := 0, slots := 0, locals := 0 }
set_option maxHeartbeats 4000000 in
set_option maxRecDepth 100000 in
theorem zc_X4_contract {l : Launch} {D : va_G} {C : ClassId × ClassId} {a : Nat → Nat} {u : zU} : zk_Mp l yX4_contract cX4_contract 1 (some .int) zR_X4_contract [.ref (a 0)] (zS C a u) D C (vp_Si (fun r => r = zf_X4_contract u)) := by
  refine zk_mp (by decide) (Nat.le_of_ble_eq_true rfl) ?_
  intro p e s m below meth c X Y
  generalize hv : zf_X4_contract u = V
  unfold zf_X4_contract at hv
  show zJ _ _ _ _ _ _ _ _ _ _ _ _ _ _ _ _ _ 0 [(0, .ref (a 0))] []
  refine zj_aload_n 1 X 0 dX4_contract_0 rfl rfl ?_
  refine zg_RX4_158 4 X (w := zuI u 12) rfl dX4_contract_1 rfl ?_
  exact ze_i X Y hv dX4_contract_4
def zf_X4_deal (u : zU) (p0 : Int32) : Nat × Int32 × zU := if 0 ≤ p0 then (0, zuI (zf_X4_startDeal (zuI1 u 5 (zf_X4_playerAfter (zuI u 5))) p0) 5, (zf_X4_startDeal (zuI1 u 5 (zf_X4_playerAfter (zuI u 5))) p0)) else (1, 0, u)
abbrev zR_X4_deal : Room := { frames := 6, cells := 1, slots := 6, locals := 90 }
set_option maxHeartbeats 4000000 in
set_option maxRecDepth 100000 in
theorem zc_X4_deal {l : Launch} {D : va_G} {C : ClassId × ClassId} {a : Nat → Nat} {u : zU} {p0 : Int32} (hfl : l.stackTraces = false) : zk_Mt l yX4_deal cX4_deal 2 (some .int) zR_X4_deal [.ref (a 0), .int (p0)] (zS C a u) D C (fun A => va_Qi (fun r u' => (0, r, u') = zf_X4_deal u p0) (fun u' t => va_P D vwCl (zS C a u') t.heap) A) (zXE (zf_X4_deal u p0).1) := by
  refine zk_mt (by decide) (Nat.le_of_ble_eq_true rfl) ?_
  intro p e s m below meth c A X Y hnot hD hA
  generalize hv : zf_X4_deal u p0 = V
  unfold zf_X4_deal at hv
  show zJ _ _ _ _ _ _ _ _ _ _ _ _ _ _ _ _ _ 0 [(0, .ref (a 0)), (1, .int (p0))] []
  refine zj_iload_n 1 X 1 dX4_deal_0 rfl rfl ?_
  refine zj_if_ge 4 14 X dX4_deal_1 (by decide) rfl (fun c1 => ?_) (fun c1 => ?_)
  · rw [if_pos c1] at hv
    refine zj_aload_n 15 X 0 dX4_deal_14 rfl rfl ?_
    refine zj_aload_n 16 X 0 dX4_deal_15 rfl rfl ?_
    refine zg_RX4_33 19 X (w := zuI u 5) rfl dX4_deal_16 rfl ?_
    refine zc_i 22 (zr_S (As := [.int (zuI u 5)]) (rest := [.ref (a 0)]) X (zc_X4_playerAfter (l := l) (p0 := zuI u 5)) zw_X4_48 zn_X4_playerAfter (zcR_of rfl) zs0 rfl (Nat.le_of_ble_eq_true rfl) dX4_deal_19) rfl ?_
    refine zp_RX4_33 25 X (zD_S _ hD) dX4_deal_22 rfl ?_
    refine zj_aload_n 26 X 0 dX4_deal_25 rfl rfl ?_
    refine zj_iload_n 27 X 1 dX4_deal_26 rfl rfl ?_
    refine zc_vm 30 (Wd := zS C a) (zr_Vm (As := [.int (p0)]) (rest := []) X (zc_X4_startDeal (l := l) (p0 := p0) (u := zuI1 u 5 (zf_X4_playerAfter (zuI u 5)))) zw_X4_37 zn_X4_startDeal (zcR_of rfl) zO_S0 (zD_S _ hD) hA rfl (Nat.le_of_ble_eq_true rfl) dX4_deal_27) (zD_S _ hD) hA rfl ?_
    refine zj_aload_n 31 X 0 dX4_deal_30 rfl rfl ?_
    refine zg_RX4_33 34 X (w := zuI (zf_X4_startDeal (zuI1 u 5 (zf_X4_playerAfter (zuI u 5))) p0) 5) rfl dX4_deal_31 rfl ?_
    exact ze_it (Wd := zS C a) (u := (zf_X4_startDeal (zuI1 u 5 (zf_X4_playerAfter (zuI u 5))) p0)) (by decide) (by decide) X Y hv dX4_deal_34
  · rw [if_neg c1] at hv
    exact zx_throw (text := "a deal's number is 0 or more") rfl rfl X Y.2 hfl zx_fit1 zx_cl1 zx_in1 zx_st43 (zx_hat X zx_a1 zx_b1) zx_g1 hnot (zXE.mk hv (by decide)) ⟨Nat.le_of_ble_eq_true rfl, Nat.le_of_ble_eq_true rfl, Nat.le_of_ble_eq_true rfl, Nat.le_of_ble_eq_true rfl⟩ dX4_deal_4 dX4_deal_7 dX4_deal_8 dX4_deal_10 dX4_deal_13 zsI
def zf_X4_bid (u : zU) (p0 : Int32) : Nat × Int32 × zU := if (zf_X0_isBid p0) = 0 then (1, 0, u) else (if (zuI u 6) = 0 then (if (zuI u 10) < p0 then (if (zuI u 9) = (-1) then (0, zuI (zf_X4_makeDeclarer (zuI1 u 10 p0) (zuI u 8)) 7, (zf_X4_makeDeclarer (zuI1 u 10 p0) (zuI u 8))) else (0, zuI u 9, zuI1 (zuI1 (zuI1 u 10 p0) 6 1) 7 (zuI u 9))) else (2, 0, u)) else (2, 0, u))
abbrev zR_X4_bid : Room := { frames := 6, cells := 1, slots := 6, locals := 90 }
set_option maxHeartbeats 4000000 in
set_option maxRecDepth 100000 in
theorem zc_X4_bid {l : Launch} {D : va_G} {C : ClassId × ClassId} {a : Nat → Nat} {u : zU} {p0 : Int32} (hfl : l.stackTraces = false) : zk_Mt l yX4_bid cX4_bid 2 (some .int) zR_X4_bid [.ref (a 0), .int (p0)] (zS C a u) D C (fun A => va_Qi (fun r u' => (0, r, u') = zf_X4_bid u p0) (fun u' t => va_P D vwCl (zS C a u') t.heap) A) (zXE (zf_X4_bid u p0).1) := by
  refine zk_mt (by decide) (Nat.le_of_ble_eq_true rfl) ?_
  intro p e s m below meth c A X Y hnot hD hA
  generalize hv : zf_X4_bid u p0 = V
  unfold zf_X4_bid at hv
  show zJ _ _ _ _ _ _ _ _ _ _ _ _ _ _ _ _ _ 0 [(0, .ref (a 0)), (1, .int (p0))] []
  refine zj_iload_n 1 X 1 dX4_bid_0 rfl rfl ?_
  refine zc_i 4 (zr_SN (As := [.int (p0)]) (rest := []) X (zc_X0_isBid (l := l) (p0 := p0)) zw_X4_58 zn_X0_isBid (zcR_of rfl) zs0 rfl (Nat.le_of_ble_eq_true rfl) dX4_bid_1) rfl ?_
  refine zj_if_ne 7 17 X dX4_bid_4 (by decide) rfl (fun c1 => ?_) (fun c1 => ?_)
  · rw [if_neg c1] at hv
    refine zj_aload_n 18 X 0 dX4_bid_17 rfl rfl ?_
    refine zg_RX4_52 21 X (w := zuI u 6) rfl dX4_bid_18 rfl ?_
    refine zj_if_ne 24 32 X dX4_bid_21 (by decide) rfl (fun c2 => ?_) (fun c2 => ?_)
    · rw [if_neg c2] at hv
      exact zx_throw (text := "this bid is not possible now") rfl rfl X Y.2 hfl zx_fit2 zx_cl2 zx_in2 zx_st71 (zx_hat X zx_a2 zx_b2) zx_g2 hnot (zXE.mk hv (by decide)) ⟨Nat.le_of_ble_eq_true rfl, Nat.le_of_ble_eq_true rfl, Nat.le_of_ble_eq_true rfl, Nat.le_of_ble_eq_true rfl⟩ dX4_bid_32 dX4_bid_35 dX4_bid_36 dX4_bid_38 dX4_bid_41 zsI
    · rw [if_pos c2] at hv
      refine zj_iload_n 25 X 1 dX4_bid_24 rfl rfl ?_
      refine zj_aload_n 26 X 0 dX4_bid_25 rfl rfl ?_
      refine zg_RX4_66 29 X (w := zuI u 10) rfl dX4_bid_26 rfl ?_
      refine zj_icmp_gt 32 42 X dX4_bid_29 (by decide) rfl (fun c3 => ?_) (fun c3 => ?_)
      · rw [if_pos c3] at hv
        refine zj_aload_n 43 X 0 dX4_bid_42 rfl rfl ?_
        refine zj_iload_n 44 X 1 dX4_bid_43 rfl rfl ?_
        refine zp_RX4_66 47 X (zD_S _ hD) dX4_bid_44 rfl ?_
        refine zj_aload_n 48 X 0 dX4_bid_47 rfl rfl ?_
        refine zg_RX4_74 51 X (w := zuI u 9) rfl dX4_bid_48 rfl ?_
        refine zj_iconst 52 X (v := (-1)) dX4_bid_51 (by decide) rfl ?_
        refine zj_icmp_ne 55 66 X dX4_bid_52 (by decide) rfl (fun c4 => ?_) (fun c4 => ?_)
        · rw [if_neg c4] at hv
          refine zj_aload_n 67 X 0 dX4_bid_66 rfl rfl ?_
          refine zj_iconst 68 X (v := 1) dX4_bid_67 (by decide) rfl ?_
          refine zp_RX4_52 71 X (zD_S _ hD) dX4_bid_68 rfl ?_
          refine zj_aload_n 72 X 0 dX4_bid_71 rfl rfl ?_
          refine zj_aload_n 73 X 0 dX4_bid_72 rfl rfl ?_
          refine zg_RX4_74 76 X (w := zuI u 9) rfl dX4_bid_73 rfl ?_
          refine zp_RX4_55 79 X (zD_S _ hD) dX4_bid_76 rfl ?_
          refine zj_aload_n 80 X 0 dX4_bid_79 rfl rfl ?_
          refine zg_RX4_55 83 X (w := zuI u 9) rfl dX4_bid_80 rfl ?_
          exact ze_it (Wd := zS C a) (u := zuI1 (zuI1 (zuI1 u 10 p0) 6 1) 7 (zuI u 9)) (by decide) (by decide) X Y hv dX4_bid_83
        · rw [if_pos c4] at hv
          refine zj_aload_n 56 X 0 dX4_bid_55 rfl rfl ?_
          refine zj_aload_n 57 X 0 dX4_bid_56 rfl rfl ?_
          refine zg_RX4_77 60 X (w := zuI u 8) rfl dX4_bid_57 rfl ?_
          refine zc_vm 63 (Wd := zS C a) (zr_Vm (As := [.int (zuI u 8)]) (rest := []) X (zc_X4_makeDeclarer (l := l) (p0 := zuI u 8) (u := zuI1 u 10 p0)) zw_X4_80 zn_X4_makeDeclarer (zcR_of rfl) zO_S0 (zD_S _ hD) hA rfl (Nat.le_of_ble_eq_true rfl) dX4_bid_60) (zD_S _ hD) hA rfl ?_
          refine zj_goto 79 X dX4_bid_63 (by decide) ?_
          refine zj_aload_n 80 X 0 dX4_bid_79 rfl rfl ?_
          refine zg_RX4_55 83 X (w := zuI (zf_X4_makeDeclarer (zuI1 u 10 p0) (zuI u 8)) 7) rfl dX4_bid_80 rfl ?_
          exact ze_it (Wd := zS C a) (u := (zf_X4_makeDeclarer (zuI1 u 10 p0) (zuI u 8))) (by decide) (by decide) X Y hv dX4_bid_83
      · rw [if_neg c3] at hv
        exact zx_throw (text := "this bid is not possible now") rfl rfl X Y.2 hfl zx_fit2 zx_cl2 zx_in2 zx_st71 (zx_hat X zx_a2 zx_b2) zx_g2 hnot (zXE.mk hv (by decide)) ⟨Nat.le_of_ble_eq_true rfl, Nat.le_of_ble_eq_true rfl, Nat.le_of_ble_eq_true rfl, Nat.le_of_ble_eq_true rfl⟩ dX4_bid_32 dX4_bid_35 dX4_bid_36 dX4_bid_38 dX4_bid_41 zsI
  · rw [if_pos c1] at hv
    exact zx_throw (text := "this is none of the bids") rfl rfl X Y.2 hfl zx_fit1 zx_cl1 zx_in1 zx_st64 (zx_hat X zx_a1 zx_b1) zx_g1 hnot (zXE.mk hv (by decide)) ⟨Nat.le_of_ble_eq_true rfl, Nat.le_of_ble_eq_true rfl, Nat.le_of_ble_eq_true rfl, Nat.le_of_ble_eq_true rfl⟩ dX4_bid_7 dX4_bid_10 dX4_bid_11 dX4_bid_13 dX4_bid_16 zsI
def zf_X4_hold (u : zU) : Nat × Int32 × zU := if (zuI u 6) = 1 then (0, zuI u 8, zuI1 (zuI1 u 6 0) 7 (zuI u 8)) else (2, 0, u)
abbrev zR_X4_hold : Room := { frames := 6, cells := 1, slots := 6, locals := 90 }
set_option maxHeartbeats 4000000 in
set_option maxRecDepth 100000 in
theorem zc_X4_hold {l : Launch} {D : va_G} {C : ClassId × ClassId} {a : Nat → Nat} {u : zU} (hfl : l.stackTraces = false) : zk_Mt l yX4_hold cX4_hold 1 (some .int) zR_X4_hold [.ref (a 0)] (zS C a u) D C (fun A => va_Qi (fun r u' => (0, r, u') = zf_X4_hold u) (fun u' t => va_P D vwCl (zS C a u') t.heap) A) (zXE (zf_X4_hold u).1) := by
  refine zk_mt (by decide) (Nat.le_of_ble_eq_true rfl) ?_
  intro p e s m below meth c A X Y hnot hD hA
  generalize hv : zf_X4_hold u = V
  unfold zf_X4_hold at hv
  show zJ _ _ _ _ _ _ _ _ _ _ _ _ _ _ _ _ _ 0 [(0, .ref (a 0))] []
  refine zj_aload_n 1 X 0 dX4_hold_0 rfl rfl ?_
  refine zg_RX4_52 4 X (w := zuI u 6) rfl dX4_hold_1 rfl ?_
  refine zj_iconst 5 X (v := 1) dX4_hold_4 (by decide) rfl ?_
  refine zj_icmp_eq 8 18 X dX4_hold_5 (by decide) rfl (fun c1 => ?_) (fun c1 => ?_)
  · rw [if_pos c1] at hv
    refine zj_aload_n 19 X 0 dX4_hold_18 rfl rfl ?_
    refine zj_iconst 20 X (v := 0) dX4_hold_19 (by decide) rfl ?_
    refine zp_RX4_52 23 X (zD_S _ hD) dX4_hold_20 rfl ?_
    refine zj_aload_n 24 X 0 dX4_hold_23 rfl rfl ?_
    refine zj_aload_n 25 X 0 dX4_hold_24 rfl rfl ?_
    refine zg_RX4_77 28 X (w := zuI u 8) rfl dX4_hold_25 rfl ?_
    refine zp_RX4_55 31 X (zD_S _ hD) dX4_hold_28 rfl ?_
    refine zj_aload_n 32 X 0 dX4_hold_31 rfl rfl ?_
    refine zg_RX4_55 35 X (w := zuI u 8) rfl dX4_hold_32 rfl ?_
    exact ze_it (Wd := zS C a) (u := zuI1 (zuI1 u 6 0) 7 (zuI u 8)) (by decide) (by decide) X Y hv dX4_hold_35
  · rw [if_neg c1] at hv
    exact zx_throw (text := "there is no bid to be held") rfl rfl X Y.2 hfl zx_fit2 zx_cl2 zx_in2 zx_st83 (zx_hat X zx_a2 zx_b2) zx_g2 hnot (zXE.mk hv (by decide)) ⟨Nat.le_of_ble_eq_true rfl, Nat.le_of_ble_eq_true rfl, Nat.le_of_ble_eq_true rfl, Nat.le_of_ble_eq_true rfl⟩ dX4_hold_8 dX4_hold_11 dX4_hold_12 dX4_hold_14 dX4_hold_17 zsI
def zf_X4_pass (u : zU) : Nat × Int32 × zU := if (zuI u 6) = 0 then (if (zuI u 9) = (-1) then (0, zuI (zf_X4_startPlay u 6) 7, (zf_X4_startPlay u 6)) else (0, zuI (zf_X4_goOnBidding u (zuI u 9)) 7, (zf_X4_goOnBidding u (zuI u 9)))) else (if (zuI u 6) = 1 then (if (zuI u 9) = (-1) then (0, zuI (zf_X4_startPlay u 6) 7, (zf_X4_startPlay u 6)) else (0, zuI (zf_X4_goOnBidding u (zuI u 8)) 7, (zf_X4_goOnBidding u (zuI u 8)))) else (2, 0, u))
abbrev zR_X4_pass : Room := { frames := 6, cells := 1, slots := 6, locals := 90 }
set_option maxHeartbeats 4000000 in
set_option maxRecDepth 100000 in
theorem zc_X4_pass {l : Launch} {D : va_G} {C : ClassId × ClassId} {a : Nat → Nat} {u : zU} (hfl : l.stackTraces = false) : zk_Mt l yX4_pass cX4_pass 1 (some .int) zR_X4_pass [.ref (a 0)] (zS C a u) D C (fun A => va_Qi (fun r u' => (0, r, u') = zf_X4_pass u) (fun u' t => va_P D vwCl (zS C a u') t.heap) A) (zXE (zf_X4_pass u).1) := by
  refine zk_mt (by decide) (Nat.le_of_ble_eq_true rfl) ?_
  intro p e s m below meth c A X Y hnot hD hA
  generalize hv : zf_X4_pass u = V
  unfold zf_X4_pass at hv
  show zJ _ _ _ _ _ _ _ _ _ _ _ _ _ _ _ _ _ 0 [(0, .ref (a 0))] []
  refine zj_aload_n 1 X 0 dX4_pass_0 rfl rfl ?_
  refine zg_RX4_52 4 X (w := zuI u 6) rfl dX4_pass_1 rfl ?_
  refine zj_if_eq 7 25 X dX4_pass_4 (by decide) rfl (fun c1 => ?_) (fun c1 => ?_)
  · rw [if_pos c1] at hv
    refine zj_aload_n 26 X 0 dX4_pass_25 rfl rfl ?_
    refine zg_RX4_74 29 X (w := zuI u 9) rfl dX4_pass_26 rfl ?_
    refine zj_iconst 30 X (v := (-1)) dX4_pass_29 (by decide) rfl ?_
    refine zj_icmp_ne 33 42 X dX4_pass_30 (by decide) rfl (fun c2 => ?_) (fun c2 => ?_)
    · rw [if_neg c2] at hv
      refine zj_aload_n 43 X 0 dX4_pass_42 rfl rfl ?_
      refine zj_aload_n 44 X 0 dX4_pass_43 rfl rfl ?_
      refine zg_RX4_52 47 X (w := zuI u 6) rfl dX4_pass_44 rfl ?_
      refine zj_if_ne 50 57 X dX4_pass_47 (by decide) rfl (fun c3 => absurd c1 c3) (fun _ => ?_)
      refine zj_aload_n 51 X 0 dX4_pass_50 rfl rfl ?_
      refine zg_RX4_74 54 X (w := zuI u 9) rfl dX4_pass_51 rfl ?_
      refine zj_goto 61 X dX4_pass_54 (by decide) ?_
      refine zc_vm 64 (Wd := zS C a) (zr_Vm (As := [.int (zuI u 9)]) (rest := []) X (zc_X4_goOnBidding (l := l) (p0 := zuI u 9) (u := u)) zw_X4_90 zn_X4_goOnBidding (zcR_of rfl) zO_S0 (zD_S _ hD) hA rfl (Nat.le_of_ble_eq_true rfl) dX4_pass_61) (zD_S _ hD) hA rfl ?_
      refine zj_aload_n 65 X 0 dX4_pass_64 rfl rfl ?_
      refine zg_RX4_55 68 X (w := zuI (zf_X4_goOnBidding u (zuI u 9)) 7) rfl dX4_pass_65 rfl ?_
      exact ze_it (Wd := zS C a) (u := (zf_X4_goOnBidding u (zuI u 9))) (by decide) (by decide) X Y hv dX4_pass_68
    · rw [if_pos c2] at hv
      refine zj_aload_n 34 X 0 dX4_pass_33 rfl rfl ?_
      refine zj_bipush 36 X (v := 6) dX4_pass_34 (by decide) rfl ?_
      refine zc_vm 39 (Wd := zS C a) (zr_Vm (As := [.int (6)]) (rest := []) X (zc_X4_startPlay (l := l) (p0 := 6) (u := u)) zw_X4_87 zn_X4_startPlay (zcR_of rfl) zO_S0 (zD_S _ hD) hA rfl (Nat.le_of_ble_eq_true rfl) dX4_pass_36) (zD_S _ hD) hA rfl ?_
      refine zj_goto 64 X dX4_pass_39 (by decide) ?_
      refine zj_aload_n 65 X 0 dX4_pass_64 rfl rfl ?_
      refine zg_RX4_55 68 X (w := zuI (zf_X4_startPlay u 6) 7) rfl dX4_pass_65 rfl ?_
      exact ze_it (Wd := zS C a) (u := (zf_X4_startPlay u 6)) (by decide) (by decide) X Y hv dX4_pass_68
  · rw [if_neg c1] at hv
    refine zj_aload_n 8 X 0 dX4_pass_7 rfl rfl ?_
    refine zg_RX4_52 11 X (w := zuI u 6) rfl dX4_pass_8 rfl ?_
    refine zj_iconst 12 X (v := 1) dX4_pass_11 (by decide) rfl ?_
    refine zj_icmp_eq 15 25 X dX4_pass_12 (by decide) rfl (fun c4 => ?_) (fun c4 => ?_)
    · rw [if_pos c4] at hv
      refine zj_aload_n 26 X 0 dX4_pass_25 rfl rfl ?_
      refine zg_RX4_74 29 X (w := zuI u 9) rfl dX4_pass_26 rfl ?_
      refine zj_iconst 30 X (v := (-1)) dX4_pass_29 (by decide) rfl ?_
      refine zj_icmp_ne 33 42 X dX4_pass_30 (by decide) rfl (fun c5 => ?_) (fun c5 => ?_)
      · rw [if_neg c5] at hv
        refine zj_aload_n 43 X 0 dX4_pass_42 rfl rfl ?_
        refine zj_aload_n 44 X 0 dX4_pass_43 rfl rfl ?_
        refine zg_RX4_52 47 X (w := zuI u 6) rfl dX4_pass_44 rfl ?_
        refine zj_if_ne 50 57 X dX4_pass_47 (by decide) rfl (fun _ => ?_) (fun c6 => absurd c6 c1)
        refine zj_aload_n 58 X 0 dX4_pass_57 rfl rfl ?_
        refine zg_RX4_77 61 X (w := zuI u 8) rfl dX4_pass_58 rfl ?_
        refine zc_vm 64 (Wd := zS C a) (zr_Vm (As := [.int (zuI u 8)]) (rest := []) X (zc_X4_goOnBidding (l := l) (p0 := zuI u 8) (u := u)) zw_X4_90 zn_X4_goOnBidding (zcR_of rfl) zO_S0 (zD_S _ hD) hA rfl (Nat.le_of_ble_eq_true rfl) dX4_pass_61) (zD_S _ hD) hA rfl ?_
        refine zj_aload_n 65 X 0 dX4_pass_64 rfl rfl ?_
        refine zg_RX4_55 68 X (w := zuI (zf_X4_goOnBidding u (zuI u 8)) 7) rfl dX4_pass_65 rfl ?_
        exact ze_it (Wd := zS C a) (u := (zf_X4_goOnBidding u (zuI u 8))) (by decide) (by decide) X Y hv dX4_pass_68
      · rw [if_pos c5] at hv
        refine zj_aload_n 34 X 0 dX4_pass_33 rfl rfl ?_
        refine zj_bipush 36 X (v := 6) dX4_pass_34 (by decide) rfl ?_
        refine zc_vm 39 (Wd := zS C a) (zr_Vm (As := [.int (6)]) (rest := []) X (zc_X4_startPlay (l := l) (p0 := 6) (u := u)) zw_X4_87 zn_X4_startPlay (zcR_of rfl) zO_S0 (zD_S _ hD) hA rfl (Nat.le_of_ble_eq_true rfl) dX4_pass_36) (zD_S _ hD) hA rfl ?_
        refine zj_goto 64 X dX4_pass_39 (by decide) ?_
        refine zj_aload_n 65 X 0 dX4_pass_64 rfl rfl ?_
        refine zg_RX4_55 68 X (w := zuI (zf_X4_startPlay u 6) 7) rfl dX4_pass_65 rfl ?_
        exact ze_it (Wd := zS C a) (u := (zf_X4_startPlay u 6)) (by decide) (by decide) X Y hv dX4_pass_68
    · rw [if_neg c4] at hv
      exact zx_throw (text := "it is not the time to bid or to hold") rfl rfl X Y.2 hfl zx_fit2 zx_cl2 zx_in2 zx_st85 (zx_hat X zx_a2 zx_b2) zx_g2 hnot (zXE.mk hv (by decide)) ⟨Nat.le_of_ble_eq_true rfl, Nat.le_of_ble_eq_true rfl, Nat.le_of_ble_eq_true rfl, Nat.le_of_ble_eq_true rfl⟩ dX4_pass_15 dX4_pass_18 dX4_pass_19 dX4_pass_21 dX4_pass_24 zsI
def zf_X4_nextBid (u : zU) (p0 : Int32) : Nat × Int32 × zU := if p0 < 0 then (1, 0, u) else (if p0 < 264 then (0, zf_X0_leastAbove p0, u) else (1, 0, u))
abbrev zR_X4_nextBid : Room := { frames := 6, cells := 1, slots := 6, locals := 90 }
set_option maxHeartbeats 4000000 in
set_option maxRecDepth 100000 in
theorem zc_X4_nextBid {l : Launch} {D : va_G} {C : ClassId × ClassId} {a : Nat → Nat} {u : zU} {p0 : Int32} (hfl : l.stackTraces = false) : zk_Mt l yX4_nextBid cX4_nextBid 2 (some .int) zR_X4_nextBid [.ref (a 0), .int (p0)] (zS C a u) D C (fun A => va_Qi (fun r u' => (0, r, u') = zf_X4_nextBid u p0) (fun u' t => va_P D vwCl (zS C a u') t.heap) A) (zXE (zf_X4_nextBid u p0).1) := by
  refine zk_mt (by decide) (Nat.le_of_ble_eq_true rfl) ?_
  intro p e s m below meth c A X Y hnot hD hA
  generalize hv : zf_X4_nextBid u p0 = V
  unfold zf_X4_nextBid at hv
  show zJ _ _ _ _ _ _ _ _ _ _ _ _ _ _ _ _ _ 0 [(0, .ref (a 0)), (1, .int (p0))] []
  refine zj_iload_n 1 X 1 dX4_nextBid_0 rfl rfl ?_
  refine zj_if_lt 4 11 X dX4_nextBid_1 (by decide) rfl (fun c1 => ?_) (fun c1 => ?_)
  · rw [if_pos c1] at hv
    exact zx_throw (text := "no bid is looked for behind this number") rfl rfl X Y.2 hfl zx_fit1 zx_cl1 zx_in1 zx_st93 (zx_hat X zx_a1 zx_b1) zx_g1 hnot (zXE.mk hv (by decide)) ⟨Nat.le_of_ble_eq_true rfl, Nat.le_of_ble_eq_true rfl, Nat.le_of_ble_eq_true rfl, Nat.le_of_ble_eq_true rfl⟩ dX4_nextBid_11 dX4_nextBid_14 dX4_nextBid_15 dX4_nextBid_17 dX4_nextBid_20 zsI
  · rw [if_neg c1] at hv
    refine zj_iload_n 5 X 1 dX4_nextBid_4 rfl rfl ?_
    refine zj_sipush 8 X (v := 264) dX4_nextBid_5 (by decide) rfl ?_
    refine zj_icmp_lt 11 21 X dX4_nextBid_8 (by decide) rfl (fun c2 => ?_) (fun c2 => ?_)
    · rw [if_pos c2] at hv
      refine zj_iload_n 22 X 1 dX4_nextBid_21 rfl rfl ?_
      refine zc_i 25 (zr_SN (As := [.int (p0)]) (rest := []) X (zc_X0_leastAbove (l := l) (p0 := p0) (hp := (znb c1 c2).1) (hp1 := (znb c1 c2).2)) zw_X4_95 zn_X0_leastAbove (zcR_of rfl) zs0 rfl (Nat.le_of_ble_eq_true rfl) dX4_nextBid_22) rfl ?_
      exact ze_it (Wd := zS C a) (u := u) (by decide) (by decide) X Y hv dX4_nextBid_25
    · rw [if_neg c2] at hv
      exact zx_throw (text := "no bid is looked for behind this number") rfl rfl X Y.2 hfl zx_fit1 zx_cl1 zx_in1 zx_st93 (zx_hat X zx_a1 zx_b1) zx_g1 hnot (zXE.mk hv (by decide)) ⟨Nat.le_of_ble_eq_true rfl, Nat.le_of_ble_eq_true rfl, Nat.le_of_ble_eq_true rfl, Nat.le_of_ble_eq_true rfl⟩ dX4_nextBid_11 dX4_nextBid_14 dX4_nextBid_15 dX4_nextBid_17 dX4_nextBid_20 zsI
def zf_X4_takeSkat (u : zU) : Nat × Int64 × zU := if (zuI u 6) = 2 then (0, zuK u, zuI1 (zusK (zuC1 u (zf_X4_seat u (zuI u 11)) ((zuC u (zf_X4_seat u (zuI u 11))) ||| (zuK u))) 0) 6 3) else (2, 0, u)
abbrev zR_X4_takeSkat : Room := { frames := 6, cells := 1, slots := 6, locals := 90 }
set_option maxHeartbeats 4000000 in
set_option maxRecDepth 100000 in
theorem zc_X4_takeSkat {l : Launch} {D : va_G} {C : ClassId × ClassId} {a : Nat → Nat} {u : zU} (hfl : l.stackTraces = false) : zk_Mt l yX4_takeSkat cX4_takeSkat 3 (some .long) zR_X4_takeSkat [.ref (a 0)] (zS C a u) D C (fun A => va_Ql (fun r u' => (0, r, u') = zf_X4_takeSkat u) (fun u' t => va_P D vwCl (zS C a u') t.heap) A) (zXE (zf_X4_takeSkat u).1) := by
  refine zk_mt (by decide) (Nat.le_of_ble_eq_true rfl) ?_
  intro p e s m below meth c A X Y hnot hD hA
  generalize hv : zf_X4_takeSkat u = V
  unfold zf_X4_takeSkat at hv
  show zJ _ _ _ _ _ _ _ _ _ _ _ _ _ _ _ _ _ 0 [(0, .ref (a 0))] []
  refine zj_aload_n 1 X 0 dX4_takeSkat_0 rfl rfl ?_
  refine zg_RX4_52 4 X (w := zuI u 6) rfl dX4_takeSkat_1 rfl ?_
  refine zj_iconst 5 X (v := 2) dX4_takeSkat_4 (by decide) rfl ?_
  refine zj_icmp_eq 8 18 X dX4_takeSkat_5 (by decide) rfl (fun c1 => ?_) (fun c1 => ?_)
  · rw [if_pos c1] at hv
    refine zj_aload_n 19 X 0 dX4_takeSkat_18 rfl rfl ?_
    refine zg_RX4_103 22 X (w := zuK u) rfl dX4_takeSkat_19 rfl ?_
    refine zj_lstore_n 23 X (lv1 := [(0, .ref (a 0)), (1, .long (zuK u))]) [1, 0] dX4_takeSkat_22 (by decide) rfl rfl ?_
    refine zj_aload_n 24 X 0 dX4_takeSkat_23 rfl rfl ?_
    refine zj_aload_n 25 X 0 dX4_takeSkat_24 rfl rfl ?_
    refine zg_RX4_98 28 X (w := zuI u 11) rfl dX4_takeSkat_25 rfl ?_
    refine zc_r 31 (ad := fun k => .ref (a (1 + k))) (zr_V (As := [.int (zuI u 11)]) (rest := []) X (zc_X4_seat (l := l) (p0 := zuI u 11) (u := u)) zw_X4_107 zn_X4_seat (zcR_of rfl) zO_S0 zsI rfl (Nat.le_of_ble_eq_true rfl) dX4_takeSkat_28) rfl ?_
    refine zj_dup 32 X dX4_takeSkat_31 rfl rfl ?_
    refine zg_RX4_111 35 (zf_X4_seat u (zuI u 11)) (zseat_lt _ _) X (w := zuC u (zf_X4_seat u (zuI u 11))) rfl dX4_takeSkat_32 rfl ?_
    refine zj_lload_n 36 X 1 dX4_takeSkat_35 rfl rfl ?_
    refine zj_lor 37 X dX4_takeSkat_36 rfl ?_
    refine zp_RX4_111 40 (zf_X4_seat u (zuI u 11)) (zseat_lt _ _) X (zD_S _ hD) dX4_takeSkat_37 rfl ?_
    refine zj_aload_n 41 X 0 dX4_takeSkat_40 rfl rfl ?_
    refine zj_lconst 42 X (v := 0) dX4_takeSkat_41 (by decide) rfl ?_
    refine zp_RX4_103 45 X (zD_S _ hD) dX4_takeSkat_42 rfl ?_
    refine zj_aload_n 46 X 0 dX4_takeSkat_45 rfl rfl ?_
    refine zj_iconst 47 X (v := 3) dX4_takeSkat_46 (by decide) rfl ?_
    refine zp_RX4_52 50 X (zD_S _ hD) dX4_takeSkat_47 rfl ?_
    refine zj_lload_n 51 X 1 dX4_takeSkat_50 rfl rfl ?_
    exact ze_lt (Wd := zS C a) (u := zuI1 (zusK (zuC1 u (zf_X4_seat u (zuI u 11)) ((zuC u (zf_X4_seat u (zuI u 11))) ||| (zuK u))) 0) 6 3) (by decide) (by decide) X Y hv dX4_takeSkat_51
  · rw [if_neg c1] at hv
    exact zx_throw (text := "it is not the time to take the skat") rfl rfl X Y.2 hfl zx_fit2 zx_cl2 zx_in2 zx_st101 (zx_hat X zx_a2 zx_b2) zx_g2 hnot (zXE.mk hv (by decide)) ⟨Nat.le_of_ble_eq_true rfl, Nat.le_of_ble_eq_true rfl, Nat.le_of_ble_eq_true rfl, Nat.le_of_ble_eq_true rfl⟩ dX4_takeSkat_8 dX4_takeSkat_11 dX4_takeSkat_12 dX4_takeSkat_14 dX4_takeSkat_17 zsI
def zf_X4_putAway (u : zU) (p0 : Int32) (p1 : Int32) : Nat × Int32 × zU := if (zf_X4_isCard p0) = 0 then (3, 0, u) else (if (zf_X4_isCard p1) = 0 then (3, 0, u) else (if p0 = p1 then (1, 0, u) else (if (zuI u 6) = 3 then (if (lg_cmp ((zuC u (zf_X4_seat u (zuI u 11))) &&& ((zf_X1_setOf p0) ||| (zf_X1_setOf p1))) ((zf_X1_setOf p0) ||| (zf_X1_setOf p1))) = 0 then (0, zf_X1_pointsIn ((zf_X1_setOf p0) ||| (zf_X1_setOf p1)), zuI1 (zusK (zuC1 u (zf_X4_seat u (zuI u 11)) ((zuC u (zf_X4_seat u (zuI u 11))) &&& (((zf_X1_setOf p0) ||| (zf_X1_setOf p1)) ^^^ (-1)))) ((zf_X1_setOf p0) ||| (zf_X1_setOf p1))) 6 4) else (2, 0, u)) else (2, 0, u))))
abbrev zR_X4_putAway : Room := { frames := 6, cells := 1, slots := 6, locals := 90 }
set_option maxHeartbeats 4000000 in
set_option maxRecDepth 100000 in
theorem zc_X4_putAway {l : Launch} {D : va_G} {C : ClassId × ClassId} {a : Nat → Nat} {u : zU} {p0 : Int32} {p1 : Int32} (hfl : l.stackTraces = false) : zk_Mt l yX4_putAway cX4_putAway 5 (some .int) zR_X4_putAway [.ref (a 0), .int (p0), .int (p1)] (zS C a u) D C (fun A => va_Qi (fun r u' => (0, r, u') = zf_X4_putAway u p0 p1) (fun u' t => va_P D vwCl (zS C a u') t.heap) A) (zXE (zf_X4_putAway u p0 p1).1) := by
  refine zk_mt (by decide) (Nat.le_of_ble_eq_true rfl) ?_
  intro p e s m below meth c A X Y hnot hD hA
  generalize hv : zf_X4_putAway u p0 p1 = V
  unfold zf_X4_putAway at hv
  show zJ _ _ _ _ _ _ _ _ _ _ _ _ _ _ _ _ _ 0 [(0, .ref (a 0)), (1, .int (p0)), (2, .int (p1))] []
  refine zj_iload_n 1 X 1 dX4_putAway_0 rfl rfl ?_
  refine zc_i 4 (zr_S (As := [.int (p0)]) (rest := []) X (zc_X4_isCard (l := l) (p0 := p0)) zw_X4_114 zn_X4_isCard (zcR_of rfl) zs0 rfl (Nat.le_of_ble_eq_true rfl) dX4_putAway_1) rfl ?_
  refine zj_if_eq 7 14 X dX4_putAway_4 (by decide) rfl (fun c1 => ?_) (fun c1 => ?_)
  · rw [if_pos c1] at hv
    exact zx_throw (text := "there is no such card") rfl rfl X Y.2 hfl zx_fit3 zx_cl3 zx_in3 zx_st119 (zx_hat X zx_a3 zx_b3) zx_g3 hnot (zXE.mk hv (by decide)) ⟨Nat.le_of_ble_eq_true rfl, Nat.le_of_ble_eq_true rfl, Nat.le_of_ble_eq_true rfl, Nat.le_of_ble_eq_true rfl⟩ dX4_putAway_14 dX4_putAway_17 dX4_putAway_18 dX4_putAway_20 dX4_putAway_23 zsI
  · rw [if_neg c1] at hv
    refine zj_iload_n 8 X 2 dX4_putAway_7 rfl rfl ?_
    refine zc_i 11 (zr_S (As := [.int (p1)]) (rest := []) X (zc_X4_isCard (l := l) (p0 := p1)) zw_X4_114 zn_X4_isCard (zcR_of rfl) zs0 rfl (Nat.le_of_ble_eq_true rfl) dX4_putAway_8) rfl ?_
    refine zj_if_ne 14 24 X dX4_putAway_11 (by decide) rfl (fun c2 => ?_) (fun c2 => ?_)
    · rw [if_neg c2] at hv
      refine zj_iload_n 25 X 1 dX4_putAway_24 rfl rfl ?_
      refine zj_iload_n 26 X 2 dX4_putAway_25 rfl rfl ?_
      refine zj_icmp_ne 29 39 X dX4_putAway_26 (by decide) rfl (fun c3 => ?_) (fun c3 => ?_)
      · rw [if_neg c3] at hv
        refine zj_iload_n 40 X 1 dX4_putAway_39 rfl rfl ?_
        refine zc_l 43 (zr_SN (As := [.int (p0)]) (rest := []) X (zc_X1_setOf (l := l) (p0 := p0)) zw_X4_124 zn_X1_setOf (zcR_of rfl) zs0 rfl (Nat.le_of_ble_eq_true rfl) dX4_putAway_40) rfl ?_
        refine zj_iload_n 44 X 2 dX4_putAway_43 rfl rfl ?_
        refine zc_l 47 (zr_SN (As := [.int (p1)]) (rest := [.long (zf_X1_setOf p0)]) X (zc_X1_setOf (l := l) (p0 := p1)) zw_X4_124 zn_X1_setOf (zcR_of rfl) zs0 rfl (Nat.le_of_ble_eq_true rfl) dX4_putAway_44) rfl ?_
        refine zj_lor 48 X dX4_putAway_47 rfl ?_
        refine zj_lstore_n 49 X (lv1 := [(0, .ref (a 0)), (1, .int (p0)), (2, .int (p1)), (3, .long ((zf_X1_setOf p0) ||| (zf_X1_setOf p1)))]) [1, 2, 3, 0] dX4_putAway_48 (by decide) rfl rfl ?_
        refine zj_aload_n 50 X 0 dX4_putAway_49 rfl rfl ?_
        refine zg_RX4_52 53 X (w := zuI u 6) rfl dX4_putAway_50 rfl ?_
        refine zj_iconst 54 X (v := 3) dX4_putAway_53 (by decide) rfl ?_
        refine zj_icmp_ne 57 75 X dX4_putAway_54 (by decide) rfl (fun c4 => ?_) (fun c4 => ?_)
        · rw [if_neg c4] at hv
          exact zx_throw (text := "these cards can't be put away now") rfl rfl X Y.2 hfl zx_fit2 zx_cl2 zx_in2 zx_st130 (zx_hat X zx_a2 zx_b2) zx_g2 hnot (zXE.mk hv (by decide)) ⟨Nat.le_of_ble_eq_true rfl, Nat.le_of_ble_eq_true rfl, Nat.le_of_ble_eq_true rfl, Nat.le_of_ble_eq_true rfl⟩ dX4_putAway_75 dX4_putAway_78 dX4_putAway_79 dX4_putAway_81 dX4_putAway_84 zsI
        · rw [if_pos c4] at hv
          refine zj_aload_n 58 X 0 dX4_putAway_57 rfl rfl ?_
          refine zj_aload_n 59 X 0 dX4_putAway_58 rfl rfl ?_
          refine zg_RX4_98 62 X (w := zuI u 11) rfl dX4_putAway_59 rfl ?_
          refine zc_r 65 (ad := fun k => .ref (a (1 + k))) (zr_V (As := [.int (zuI u 11)]) (rest := []) X (zc_X4_seat (l := l) (p0 := zuI u 11) (u := u)) zw_X4_107 zn_X4_seat (zcR_of rfl) zO_S0 zsI rfl (Nat.le_of_ble_eq_true rfl) dX4_putAway_62) rfl ?_
          refine zg_RX4_111 68 (zf_X4_seat u (zuI u 11)) (zseat_lt _ _) X (w := zuC u (zf_X4_seat u (zuI u 11))) rfl dX4_putAway_65 rfl ?_
          refine zj_lload_n 69 X 3 dX4_putAway_68 rfl rfl ?_
          refine zj_land 70 X dX4_putAway_69 rfl ?_
          refine zj_lload_n 71 X 3 dX4_putAway_70 rfl rfl ?_
          refine zj_lcmp 72 X dX4_putAway_71 rfl ?_
          refine zj_if_eq 75 85 X dX4_putAway_72 (by decide) rfl (fun c5 => ?_) (fun c5 => ?_)
          · rw [if_pos c5] at hv
            refine zj_aload_n 86 X 0 dX4_putAway_85 rfl rfl ?_
            refine zj_aload_n 87 X 0 dX4_putAway_86 rfl rfl ?_
            refine zg_RX4_98 90 X (w := zuI u 11) rfl dX4_putAway_87 rfl ?_
            refine zc_r 93 (ad := fun k => .ref (a (1 + k))) (zr_V (As := [.int (zuI u 11)]) (rest := []) X (zc_X4_seat (l := l) (p0 := zuI u 11) (u := u)) zw_X4_107 zn_X4_seat (zcR_of rfl) zO_S0 zsI rfl (Nat.le_of_ble_eq_true rfl) dX4_putAway_90) rfl ?_
            refine zj_dup 94 X dX4_putAway_93 rfl rfl ?_
            refine zg_RX4_111 97 (zf_X4_seat u (zuI u 11)) (zseat_lt _ _) X (w := zuC u (zf_X4_seat u (zuI u 11))) rfl dX4_putAway_94 rfl ?_
            refine zj_lload_n 98 X 3 dX4_putAway_97 rfl rfl ?_
            refine zj_ldc2 101 X (v := (-1)) (zG_t 330 (by decide +kernel) rfl) dX4_putAway_98 rfl ?_
            refine zj_lxor 102 X dX4_putAway_101 rfl ?_
            refine zj_land 103 X dX4_putAway_102 rfl ?_
            refine zp_RX4_111 106 (zf_X4_seat u (zuI u 11)) (zseat_lt _ _) X (zD_S _ hD) dX4_putAway_103 rfl ?_
            refine zj_aload_n 107 X 0 dX4_putAway_106 rfl rfl ?_
            refine zj_lload_n 108 X 3 dX4_putAway_107 rfl rfl ?_
            refine zp_RX4_103 111 X (zD_S _ hD) dX4_putAway_108 rfl ?_
            refine zj_aload_n 112 X 0 dX4_putAway_111 rfl rfl ?_
            refine zj_iconst 113 X (v := 4) dX4_putAway_112 (by decide) rfl ?_
            refine zp_RX4_52 116 X (zD_S _ hD) dX4_putAway_113 rfl ?_
            refine zj_lload_n 117 X 3 dX4_putAway_116 rfl rfl ?_
            refine zc_i 120 (zr_SN (As := [.long ((zf_X1_setOf p0) ||| (zf_X1_setOf p1))]) (rest := []) X (zc_X1_pointsIn (l := l) (p0 := (zf_X1_setOf p0) ||| (zf_X1_setOf p1))) zw_X4_134 zn_X1_pointsIn (zcR_of rfl) zs0 rfl (Nat.le_of_ble_eq_true rfl) dX4_putAway_117) rfl ?_
            exact ze_it (Wd := zS C a) (u := zuI1 (zusK (zuC1 u (zf_X4_seat u (zuI u 11)) ((zuC u (zf_X4_seat u (zuI u 11))) &&& (((zf_X1_setOf p0) ||| (zf_X1_setOf p1)) ^^^ (-1)))) ((zf_X1_setOf p0) ||| (zf_X1_setOf p1))) 6 4) (by decide) (by decide) X Y hv dX4_putAway_120
          · rw [if_neg c5] at hv
            exact zx_throw (text := "these cards can't be put away now") rfl rfl X Y.2 hfl zx_fit2 zx_cl2 zx_in2 zx_st130 (zx_hat X zx_a2 zx_b2) zx_g2 hnot (zXE.mk hv (by decide)) ⟨Nat.le_of_ble_eq_true rfl, Nat.le_of_ble_eq_true rfl, Nat.le_of_ble_eq_true rfl, Nat.le_of_ble_eq_true rfl⟩ dX4_putAway_75 dX4_putAway_78 dX4_putAway_79 dX4_putAway_81 dX4_putAway_84 zsI
      · rw [if_pos c3] at hv
        exact zx_throw (text := "two different cards are put away") rfl rfl X Y.2 hfl zx_fit1 zx_cl1 zx_in1 zx_st122 (zx_hat X zx_a1 zx_b1) zx_g1 hnot (zXE.mk hv (by decide)) ⟨Nat.le_of_ble_eq_true rfl, Nat.le_of_ble_eq_true rfl, Nat.le_of_ble_eq_true rfl, Nat.le_of_ble_eq_true rfl⟩ dX4_putAway_29 dX4_putAway_32 dX4_putAway_33 dX4_putAway_35 dX4_putAway_38 zsI
    · rw [if_pos c2] at hv
      exact zx_throw (text := "there is no such card") rfl rfl X Y.2 hfl zx_fit3 zx_cl3 zx_in3 zx_st119 (zx_hat X zx_a3 zx_b3) zx_g3 hnot (zXE.mk hv (by decide)) ⟨Nat.le_of_ble_eq_true rfl, Nat.le_of_ble_eq_true rfl, Nat.le_of_ble_eq_true rfl, Nat.le_of_ble_eq_true rfl⟩ dX4_putAway_14 dX4_putAway_17 dX4_putAway_18 dX4_putAway_20 dX4_putAway_23 zsI
def zf_X4_announce (u : zU) (p0 : Int32) (p1 : Int32) : Nat × Int32 × zU := if p0 < 0 then (1, 0, u) else (if 5 < p0 then (1, 0, u) else (if p1 < 0 then (1, 0, u) else (if p1 ≤ 3 then (if (zuI u 6) = 2 then (if (zf_X4_isExtraPossible p0 p1 1) = 0 then (2, 0, u) else (0, zuI (zf_X4_startPlay (zuP1 (zuI1 (zuI1 u 13 p1) 14 1) (zf_X4_seat (zuI1 (zuI1 u 13 p1) 14 1) (zuI u 11)) ((zuP u (zf_X4_seat (zuI1 (zuI1 u 13 p1) 14 1) (zuI u 11))) + (zf_X1_pointsIn (zuK u)))) p0) 7, (zf_X4_startPlay (zuP1 (zuI1 (zuI1 u 13 p1) 14 1) (zf_X4_seat (zuI1 (zuI1 u 13 p1) 14 1) (zuI u 11)) ((zuP u (zf_X4_seat (zuI1 (zuI1 u 13 p1) 14 1) (zuI u 11))) + (zf_X1_pointsIn (zuK u)))) p0))) else (if (zuI u 6) = 4 then (if (zf_X4_isExtraPossible p0 p1 0) = 0 then (2, 0, u) else (0, zuI (zf_X4_startPlay (zuP1 (zuI1 (zuI1 u 13 p1) 14 0) (zf_X4_seat (zuI1 (zuI1 u 13 p1) 14 0) (zuI u 11)) ((zuP u (zf_X4_seat (zuI1 (zuI1 u 13 p1) 14 0) (zuI u 11))) + (zf_X1_pointsIn (zuK u)))) p0) 7, (zf_X4_startPlay (zuP1 (zuI1 (zuI1 u 13 p1) 14 0) (zf_X4_seat (zuI1 (zuI1 u 13 p1) 14 0) (zuI u 11)) ((zuP u (zf_X4_seat (zuI1 (zuI1 u 13 p1) 14 0) (zuI u 11))) + (zf_X1_pointsIn (zuK u)))) p0))) else (2, 0, u))) else (1, 0, u))))
abbrev zR_X4_announce : Room := { frames := 6, cells := 1, slots := 6, locals := 90 }
set_option maxHeartbeats 4000000 in
set_option maxRecDepth 100000 in
theorem zc_X4_announce {l : Launch} {D : va_G} {C : ClassId × ClassId} {a : Nat → Nat} {u : zU} {p0 : Int32} {p1 : Int32} (hfl : l.stackTraces = false) : zk_Mt l yX4_announce cX4_announce 4 (some .int) zR_X4_announce [.ref (a 0), .int (p0), .int (p1)] (zS C a u) D C (fun A => va_Qi (fun r u' => (0, r, u') = zf_X4_announce u p0 p1) (fun u' t => va_P D vwCl (zS C a u') t.heap) A) (zXE (zf_X4_announce u p0 p1).1) := by
  refine zk_mt (by decide) (Nat.le_of_ble_eq_true rfl) ?_
  intro p e s m below meth c A X Y hnot hD hA
  generalize hv : zf_X4_announce u p0 p1 = V
  unfold zf_X4_announce at hv
  show zJ _ _ _ _ _ _ _ _ _ _ _ _ _ _ _ _ _ 0 [(0, .ref (a 0)), (1, .int (p0)), (2, .int (p1))] []
  refine zj_iload_n 1 X 1 dX4_announce_0 rfl rfl ?_
  refine zj_if_lt 4 18 X dX4_announce_1 (by decide) rfl (fun c1 => ?_) (fun c1 => ?_)
  · rw [if_pos c1] at hv
    exact zx_throw (text := "there is no such contract or extra") rfl rfl X Y.2 hfl zx_fit1 zx_cl1 zx_in1 zx_st138 (zx_hat X zx_a1 zx_b1) zx_g1 hnot (zXE.mk hv (by decide)) ⟨Nat.le_of_ble_eq_true rfl, Nat.le_of_ble_eq_true rfl, Nat.le_of_ble_eq_true rfl, Nat.le_of_ble_eq_true rfl⟩ dX4_announce_18 dX4_announce_21 dX4_announce_22 dX4_announce_24 dX4_announce_27 zsI
  · rw [if_neg c1] at hv
    refine zj_iload_n 5 X 1 dX4_announce_4 rfl rfl ?_
    refine zj_iconst 6 X (v := 5) dX4_announce_5 (by decide) rfl ?_
    refine zj_icmp_gt 9 18 X dX4_announce_6 (by decide) rfl (fun c2 => ?_) (fun c2 => ?_)
    · rw [if_pos c2] at hv
      exact zx_throw (text := "there is no such contract or extra") rfl rfl X Y.2 hfl zx_fit1 zx_cl1 zx_in1 zx_st138 (zx_hat X zx_a1 zx_b1) zx_g1 hnot (zXE.mk hv (by decide)) ⟨Nat.le_of_ble_eq_true rfl, Nat.le_of_ble_eq_true rfl, Nat.le_of_ble_eq_true rfl, Nat.le_of_ble_eq_true rfl⟩ dX4_announce_18 dX4_announce_21 dX4_announce_22 dX4_announce_24 dX4_announce_27 zsI
    · rw [if_neg c2] at hv
      refine zj_iload_n 10 X 2 dX4_announce_9 rfl rfl ?_
      refine zj_if_lt 13 18 X dX4_announce_10 (by decide) rfl (fun c3 => ?_) (fun c3 => ?_)
      · rw [if_pos c3] at hv
        exact zx_throw (text := "there is no such contract or extra") rfl rfl X Y.2 hfl zx_fit1 zx_cl1 zx_in1 zx_st138 (zx_hat X zx_a1 zx_b1) zx_g1 hnot (zXE.mk hv (by decide)) ⟨Nat.le_of_ble_eq_true rfl, Nat.le_of_ble_eq_true rfl, Nat.le_of_ble_eq_true rfl, Nat.le_of_ble_eq_true rfl⟩ dX4_announce_18 dX4_announce_21 dX4_announce_22 dX4_announce_24 dX4_announce_27 zsI
      · rw [if_neg c3] at hv
        refine zj_iload_n 14 X 2 dX4_announce_13 rfl rfl ?_
        refine zj_iconst 15 X (v := 3) dX4_announce_14 (by decide) rfl ?_
        refine zj_icmp_le 18 28 X dX4_announce_15 (by decide) rfl (fun c4 => ?_) (fun c4 => ?_)
        · rw [if_pos c4] at hv
          refine zj_aload_n 29 X 0 dX4_announce_28 rfl rfl ?_
          refine zg_RX4_52 32 X (w := zuI u 6) rfl dX4_announce_29 rfl ?_
          refine zj_iconst 33 X (v := 2) dX4_announce_32 (by decide) rfl ?_
          refine zj_icmp_ne 36 40 X dX4_announce_33 (by decide) rfl (fun c5 => ?_) (fun c5 => ?_)
          · rw [if_neg c5] at hv
            refine zj_iconst 41 X (v := 0) dX4_announce_40 (by decide) rfl ?_
            refine zj_istore_n 42 X (lv1 := [(0, .ref (a 0)), (1, .int (p0)), (2, .int (p1)), (3, .int (0))]) [1, 2, 3, 0] dX4_announce_41 (by decide) rfl rfl ?_
            refine zj_iload_n 43 X 3 dX4_announce_42 rfl rfl ?_
            refine zj_if_ne 46 64 X dX4_announce_43 (by decide) rfl (fun c6 => absurd c6 (by decide)) (fun _ => ?_)
            refine zj_aload_n 47 X 0 dX4_announce_46 rfl rfl ?_
            refine zg_RX4_52 50 X (w := zuI u 6) rfl dX4_announce_47 rfl ?_
            refine zj_iconst 51 X (v := 4) dX4_announce_50 (by decide) rfl ?_
            refine zj_icmp_eq 54 64 X dX4_announce_51 (by decide) rfl (fun c7 => ?_) (fun c7 => ?_)
            · rw [if_pos c7] at hv
              refine zj_iload_n 65 X 1 dX4_announce_64 rfl rfl ?_
              refine zj_iload_n 66 X 2 dX4_announce_65 rfl rfl ?_
              refine zj_iload_n 67 X 3 dX4_announce_66 rfl rfl ?_
              refine zc_i 70 (zr_S (As := [.int (p0), .int (p1), .int (0)]) (rest := []) X (zc_X4_isExtraPossible (l := l) (p0 := p0) (p1 := p1) (p2 := 0) (hb := (by decide))) zw_X4_142 zn_X4_isExtraPossible (zcR_of rfl) zs0 rfl (Nat.le_of_ble_eq_true rfl) dX4_announce_67) rfl ?_
              refine zj_if_ne 73 83 X dX4_announce_70 (by decide) rfl (fun c8 => ?_) (fun c8 => ?_)
              · rw [if_neg c8] at hv
                refine zj_aload_n 84 X 0 dX4_announce_83 rfl rfl ?_
                refine zj_iload_n 85 X 2 dX4_announce_84 rfl rfl ?_
                refine zp_RX4_148 88 X (zD_S _ hD) dX4_announce_85 rfl ?_
                refine zj_aload_n 89 X 0 dX4_announce_88 rfl rfl ?_
                refine zj_iload_n 90 X 3 dX4_announce_89 rfl rfl ?_
                refine zp_RX4_151 93 X (zD_S _ hD) (by decide) dX4_announce_90 rfl ?_
                refine zj_aload_n 94 X 0 dX4_announce_93 rfl rfl ?_
                refine zj_aload_n 95 X 0 dX4_announce_94 rfl rfl ?_
                refine zg_RX4_98 98 X (w := zuI u 11) rfl dX4_announce_95 rfl ?_
                refine zc_r 101 (ad := fun k => .ref (a (1 + k))) (zr_V (As := [.int (zuI u 11)]) (rest := []) X (zc_X4_seat (l := l) (p0 := zuI u 11) (u := zuI1 (zuI1 u 13 p1) 14 0)) zw_X4_107 zn_X4_seat (zcR_of rfl) zO_S0 zsI rfl (Nat.le_of_ble_eq_true rfl) dX4_announce_98) rfl ?_
                refine zj_dup 102 X dX4_announce_101 rfl rfl ?_
                refine zg_RX4_155 105 (zf_X4_seat (zuI1 (zuI1 u 13 p1) 14 0) (zuI u 11)) (zseat_lt _ _) X (w := zuP u (zf_X4_seat (zuI1 (zuI1 u 13 p1) 14 0) (zuI u 11))) rfl dX4_announce_102 rfl ?_
                refine zj_aload_n 106 X 0 dX4_announce_105 rfl rfl ?_
                refine zg_RX4_103 109 X (w := zuK u) rfl dX4_announce_106 rfl ?_
                refine zc_i 112 (zr_SN (As := [.long (zuK u)]) (rest := [.int (zuP u (zf_X4_seat (zuI1 (zuI1 u 13 p1) 14 0) (zuI u 11))), .ref (a (1 + zf_X4_seat (zuI1 (zuI1 u 13 p1) 14 0) (zuI u 11)))]) X (zc_X1_pointsIn (l := l) (p0 := zuK u)) zw_X4_134 zn_X1_pointsIn (zcR_of rfl) zs0 rfl (Nat.le_of_ble_eq_true rfl) dX4_announce_109) rfl ?_
                refine zj_iadd 113 X dX4_announce_112 rfl ?_
                refine zp_RX4_155 116 (zf_X4_seat (zuI1 (zuI1 u 13 p1) 14 0) (zuI u 11)) (zseat_lt _ _) X (zD_S _ hD) dX4_announce_113 rfl ?_
                refine zj_aload_n 117 X 0 dX4_announce_116 rfl rfl ?_
                refine zj_iload_n 118 X 1 dX4_announce_117 rfl rfl ?_
                refine zc_vm 121 (Wd := zS C a) (zr_Vm (As := [.int (p0)]) (rest := []) X (zc_X4_startPlay (l := l) (p0 := p0) (u := zuP1 (zuI1 (zuI1 u 13 p1) 14 0) (zf_X4_seat (zuI1 (zuI1 u 13 p1) 14 0) (zuI u 11)) ((zuP u (zf_X4_seat (zuI1 (zuI1 u 13 p1) 14 0) (zuI u 11))) + (zf_X1_pointsIn (zuK u))))) zw_X4_87 zn_X4_startPlay (zcR_of rfl) zO_S0 (zD_S _ hD) hA rfl (Nat.le_of_ble_eq_true rfl) dX4_announce_118) (zD_S _ hD) hA rfl ?_
                refine zj_aload_n 122 X 0 dX4_announce_121 rfl rfl ?_
                refine zg_RX4_55 125 X (w := zuI (zf_X4_startPlay (zuP1 (zuI1 (zuI1 u 13 p1) 14 0) (zf_X4_seat (zuI1 (zuI1 u 13 p1) 14 0) (zuI u 11)) ((zuP u (zf_X4_seat (zuI1 (zuI1 u 13 p1) 14 0) (zuI u 11))) + (zf_X1_pointsIn (zuK u)))) p0) 7) rfl dX4_announce_122 rfl ?_
                exact ze_it (Wd := zS C a) (u := (zf_X4_startPlay (zuP1 (zuI1 (zuI1 u 13 p1) 14 0) (zf_X4_seat (zuI1 (zuI1 u 13 p1) 14 0) (zuI u 11)) ((zuP u (zf_X4_seat (zuI1 (zuI1 u 13 p1) 14 0) (zuI u 11))) + (zf_X1_pointsIn (zuK u)))) p0)) (by decide) (by decide) X Y hv dX4_announce_125
              · rw [if_pos c8] at hv
                exact zx_throw (text := "this extra is not possible") rfl rfl X Y.2 hfl zx_fit2 zx_cl2 zx_in2 zx_st146 (zx_hat X zx_a2 zx_b2) zx_g2 hnot (zXE.mk hv (by decide)) ⟨Nat.le_of_ble_eq_true rfl, Nat.le_of_ble_eq_true rfl, Nat.le_of_ble_eq_true rfl, Nat.le_of_ble_eq_true rfl⟩ dX4_announce_73 dX4_announce_76 dX4_announce_77 dX4_announce_79 dX4_announce_82 zsI
            · rw [if_neg c7] at hv
              exact zx_throw (text := "it is not the time to announce") rfl rfl X Y.2 hfl zx_fit2 zx_cl2 zx_in2 zx_st140 (zx_hat X zx_a2 zx_b2) zx_g2 hnot (zXE.mk hv (by decide)) ⟨Nat.le_of_ble_eq_true rfl, Nat.le_of_ble_eq_true rfl, Nat.le_of_ble_eq_true rfl, Nat.le_of_ble_eq_true rfl⟩ dX4_announce_54 dX4_announce_57 dX4_announce_58 dX4_announce_60 dX4_announce_63 zsI
          · rw [if_pos c5] at hv
            refine zj_iconst 37 X (v := 1) dX4_announce_36 (by decide) rfl ?_
            refine zj_goto 41 X dX4_announce_37 (by decide) ?_
            refine zj_istore_n 42 X (lv1 := [(0, .ref (a 0)), (1, .int (p0)), (2, .int (p1)), (3, .int (1))]) [1, 2, 3, 0] dX4_announce_41 (by decide) rfl rfl ?_
            refine zj_iload_n 43 X 3 dX4_announce_42 rfl rfl ?_
            refine zj_if_ne 46 64 X dX4_announce_43 (by decide) rfl (fun _ => ?_) (fun c9 => absurd c9 (by decide))
            refine zj_iload_n 65 X 1 dX4_announce_64 rfl rfl ?_
            refine zj_iload_n 66 X 2 dX4_announce_65 rfl rfl ?_
            refine zj_iload_n 67 X 3 dX4_announce_66 rfl rfl ?_
            refine zc_i 70 (zr_S (As := [.int (p0), .int (p1), .int (1)]) (rest := []) X (zc_X4_isExtraPossible (l := l) (p0 := p0) (p1 := p1) (p2 := 1) (hb := (by decide))) zw_X4_142 zn_X4_isExtraPossible (zcR_of rfl) zs0 rfl (Nat.le_of_ble_eq_true rfl) dX4_announce_67) rfl ?_
            refine zj_if_ne 73 83 X dX4_announce_70 (by decide) rfl (fun c10 => ?_) (fun c10 => ?_)
            · rw [if_neg c10] at hv
              refine zj_aload_n 84 X 0 dX4_announce_83 rfl rfl ?_
              refine zj_iload_n 85 X 2 dX4_announce_84 rfl rfl ?_
              refine zp_RX4_148 88 X (zD_S _ hD) dX4_announce_85 rfl ?_
              refine zj_aload_n 89 X 0 dX4_announce_88 rfl rfl ?_
              refine zj_iload_n 90 X 3 dX4_announce_89 rfl rfl ?_
              refine zp_RX4_151 93 X (zD_S _ hD) (by decide) dX4_announce_90 rfl ?_
              refine zj_aload_n 94 X 0 dX4_announce_93 rfl rfl ?_
              refine zj_aload_n 95 X 0 dX4_announce_94 rfl rfl ?_
              refine zg_RX4_98 98 X (w := zuI u 11) rfl dX4_announce_95 rfl ?_
              refine zc_r 101 (ad := fun k => .ref (a (1 + k))) (zr_V (As := [.int (zuI u 11)]) (rest := []) X (zc_X4_seat (l := l) (p0 := zuI u 11) (u := zuI1 (zuI1 u 13 p1) 14 1)) zw_X4_107 zn_X4_seat (zcR_of rfl) zO_S0 zsI rfl (Nat.le_of_ble_eq_true rfl) dX4_announce_98) rfl ?_
              refine zj_dup 102 X dX4_announce_101 rfl rfl ?_
              refine zg_RX4_155 105 (zf_X4_seat (zuI1 (zuI1 u 13 p1) 14 1) (zuI u 11)) (zseat_lt _ _) X (w := zuP u (zf_X4_seat (zuI1 (zuI1 u 13 p1) 14 1) (zuI u 11))) rfl dX4_announce_102 rfl ?_
              refine zj_aload_n 106 X 0 dX4_announce_105 rfl rfl ?_
              refine zg_RX4_103 109 X (w := zuK u) rfl dX4_announce_106 rfl ?_
              refine zc_i 112 (zr_SN (As := [.long (zuK u)]) (rest := [.int (zuP u (zf_X4_seat (zuI1 (zuI1 u 13 p1) 14 1) (zuI u 11))), .ref (a (1 + zf_X4_seat (zuI1 (zuI1 u 13 p1) 14 1) (zuI u 11)))]) X (zc_X1_pointsIn (l := l) (p0 := zuK u)) zw_X4_134 zn_X1_pointsIn (zcR_of rfl) zs0 rfl (Nat.le_of_ble_eq_true rfl) dX4_announce_109) rfl ?_
              refine zj_iadd 113 X dX4_announce_112 rfl ?_
              refine zp_RX4_155 116 (zf_X4_seat (zuI1 (zuI1 u 13 p1) 14 1) (zuI u 11)) (zseat_lt _ _) X (zD_S _ hD) dX4_announce_113 rfl ?_
              refine zj_aload_n 117 X 0 dX4_announce_116 rfl rfl ?_
              refine zj_iload_n 118 X 1 dX4_announce_117 rfl rfl ?_
              refine zc_vm 121 (Wd := zS C a) (zr_Vm (As := [.int (p0)]) (rest := []) X (zc_X4_startPlay (l := l) (p0 := p0) (u := zuP1 (zuI1 (zuI1 u 13 p1) 14 1) (zf_X4_seat (zuI1 (zuI1 u 13 p1) 14 1) (zuI u 11)) ((zuP u (zf_X4_seat (zuI1 (zuI1 u 13 p1) 14 1) (zuI u 11))) + (zf_X1_pointsIn (zuK u))))) zw_X4_87 zn_X4_startPlay (zcR_of rfl) zO_S0 (zD_S _ hD) hA rfl (Nat.le_of_ble_eq_true rfl) dX4_announce_118) (zD_S _ hD) hA rfl ?_
              refine zj_aload_n 122 X 0 dX4_announce_121 rfl rfl ?_
              refine zg_RX4_55 125 X (w := zuI (zf_X4_startPlay (zuP1 (zuI1 (zuI1 u 13 p1) 14 1) (zf_X4_seat (zuI1 (zuI1 u 13 p1) 14 1) (zuI u 11)) ((zuP u (zf_X4_seat (zuI1 (zuI1 u 13 p1) 14 1) (zuI u 11))) + (zf_X1_pointsIn (zuK u)))) p0) 7) rfl dX4_announce_122 rfl ?_
              exact ze_it (Wd := zS C a) (u := (zf_X4_startPlay (zuP1 (zuI1 (zuI1 u 13 p1) 14 1) (zf_X4_seat (zuI1 (zuI1 u 13 p1) 14 1) (zuI u 11)) ((zuP u (zf_X4_seat (zuI1 (zuI1 u 13 p1) 14 1) (zuI u 11))) + (zf_X1_pointsIn (zuK u)))) p0)) (by decide) (by decide) X Y hv dX4_announce_125
            · rw [if_pos c10] at hv
              exact zx_throw (text := "this extra is not possible") rfl rfl X Y.2 hfl zx_fit2 zx_cl2 zx_in2 zx_st146 (zx_hat X zx_a2 zx_b2) zx_g2 hnot (zXE.mk hv (by decide)) ⟨Nat.le_of_ble_eq_true rfl, Nat.le_of_ble_eq_true rfl, Nat.le_of_ble_eq_true rfl, Nat.le_of_ble_eq_true rfl⟩ dX4_announce_73 dX4_announce_76 dX4_announce_77 dX4_announce_79 dX4_announce_82 zsI
        · rw [if_neg c4] at hv
          exact zx_throw (text := "there is no such contract or extra") rfl rfl X Y.2 hfl zx_fit1 zx_cl1 zx_in1 zx_st138 (zx_hat X zx_a1 zx_b1) zx_g1 hnot (zXE.mk hv (by decide)) ⟨Nat.le_of_ble_eq_true rfl, Nat.le_of_ble_eq_true rfl, Nat.le_of_ble_eq_true rfl, Nat.le_of_ble_eq_true rfl⟩ dX4_announce_18 dX4_announce_21 dX4_announce_22 dX4_announce_24 dX4_announce_27 zsI
def zf_X4_matadors (u : zU) (p0 : Int32) (p1 : Int32) : Nat × Int32 × zU := if (zf_X4_refuseNoPlayer u p0).1 = 0 then (if p1 < 0 then (1, 0, u) else (if p1 ≤ 4 then (0, zf_X1_runOfTrumps (zf_X4_cardsForMatadors u p0) p1, u) else (1, 0, u))) else ((zf_X4_refuseNoPlayer u p0).1, 0, u)
abbrev zR_X4_matadors : Room := { frames := 7, cells := 2, slots := 12, locals := 110 }
set_option maxHeartbeats 4000000 in
set_option maxRecDepth 100000 in
theorem zc_X4_matadors {l : Launch} {D : va_G} {C : ClassId × ClassId} {a : Nat → Nat} {u : zU} {p0 : Int32} {p1 : Int32} (hfl : l.stackTraces = false) : zk_Mu l yX4_matadors cX4_matadors 3 (some .int) zR_X4_matadors [.ref (a 0), .int (p0), .int (p1)] (zS C a u) D C (fun A => va_Qi (fun r u' => (0, r, u') = zf_X4_matadors u p0 p1) (fun u' t => va_P D vwCl (zS C a u') t.heap) A) (zXE (zf_X4_matadors u p0 p1).1) := by
  refine zk_mu (by decide) (Nat.le_of_ble_eq_true rfl) ?_
  intro p e s m below meth c A X Y hnot hD hA
  generalize hv : zf_X4_matadors u p0 p1 = V
  unfold zf_X4_matadors at hv
  show zJ _ _ _ _ _ _ _ _ _ _ _ _ _ _ _ _ _ 0 [(0, .ref (a 0)), (1, .int (p0)), (2, .int (p1))] []
  refine zj_iload_n 1 X 1 dX4_matadors_0 rfl rfl ?_
  refine zc_vt 4 (Wd := zS C a) rfl rfl X Y.2 (zr_St (As := [.int (p0)]) (rest := []) X (zc_X4_refuseNoPlayer (l := l) (p0 := p0) (u := u) (hfl := hfl)) zw_X4_161 zn_X4_refuseNoPlayer (zcR_of rfl) (zD_S _ hD) hA rfl (Nat.le_of_ble_eq_true rfl) dX4_matadors_1) (zD_S _ hD) hA hnot rfl (fun c1 => ?_) (fun c1 => by rw [if_neg c1] at hv; exact zXE.mk hv c1)
  rw [if_pos c1] at hv
  rw [zrnp u p0]
  refine zj_iload_n 5 X 2 dX4_matadors_4 rfl rfl ?_
  refine zj_if_lt 8 13 X dX4_matadors_5 (by decide) rfl (fun c2 => ?_) (fun c2 => ?_)
  · rw [if_pos c2] at hv
    exact zx_throwu (text := "there are no trumps to count for this contract") (by decide) (by decide) X Y.2 hfl zx_fit1 zx_cl1 zx_in1 zx_st164 (zx_hat X zx_a1 zx_b1) zx_g1 hnot (zXE.mk hv (by decide)) ⟨Nat.le_of_ble_eq_true rfl, Nat.le_of_ble_eq_true rfl, Nat.le_of_ble_eq_true rfl, Nat.le_of_ble_eq_true rfl⟩ dX4_matadors_13 dX4_matadors_16 dX4_matadors_17 dX4_matadors_19 dX4_matadors_22 zsI
  · rw [if_neg c2] at hv
    refine zj_iload_n 9 X 2 dX4_matadors_8 rfl rfl ?_
    refine zj_iconst 10 X (v := 4) dX4_matadors_9 (by decide) rfl ?_
    refine zj_icmp_le 13 23 X dX4_matadors_10 (by decide) rfl (fun c3 => ?_) (fun c3 => ?_)
    · rw [if_pos c3] at hv
      refine zj_aload_n 24 X 0 dX4_matadors_23 rfl rfl ?_
      refine zj_iload_n 25 X 1 dX4_matadors_24 rfl rfl ?_
      refine zc_l 28 (zr_V (As := [.int (p0)]) (rest := []) X (zc_X4_cardsForMatadors (l := l) (p0 := p0) (u := u)) zw_X4_166 zn_X4_cardsForMatadors (zcR_of rfl) zO_S0 zsI rfl (Nat.le_of_ble_eq_true rfl) dX4_matadors_25) rfl ?_
      refine zj_iload_n 29 X 2 dX4_matadors_28 rfl rfl ?_
      refine zc_i 32 (zr_SN (As := [.long (zf_X4_cardsForMatadors u p0), .int (p1)]) (rest := []) X (zc_X1_runOfTrumps (l := l) (p0 := zf_X4_cardsForMatadors u p0) (p1 := p1)) zw_X4_169 zn_X1_runOfTrumps (zcR_of rfl) zs0 rfl (Nat.le_of_ble_eq_true rfl) dX4_matadors_29) rfl ?_
      exact ze_iu (Wd := zS C a) (u := u) (by decide) (by decide) X Y hv dX4_matadors_32
    · rw [if_neg c3] at hv
      exact zx_throwu (text := "there are no trumps to count for this contract") (by decide) (by decide) X Y.2 hfl zx_fit1 zx_cl1 zx_in1 zx_st164 (zx_hat X zx_a1 zx_b1) zx_g1 hnot (zXE.mk hv (by decide)) ⟨Nat.le_of_ble_eq_true rfl, Nat.le_of_ble_eq_true rfl, Nat.le_of_ble_eq_true rfl, Nat.le_of_ble_eq_true rfl⟩ dX4_matadors_13 dX4_matadors_16 dX4_matadors_17 dX4_matadors_19 dX4_matadors_22 zsI
def zf_X4_playable (u : zU) : Nat × Int64 × zU := if (zuI u 6) = 5 then (0, zf_X4_playableCards u, u) else (2, 0, u)
abbrev zR_X4_playable : Room := { frames := 6, cells := 1, slots := 6, locals := 90 }
set_option maxHeartbeats 4000000 in
set_option maxRecDepth 100000 in
theorem zc_X4_playable {l : Launch} {D : va_G} {C : ClassId × ClassId} {a : Nat → Nat} {u : zU} (hfl : l.stackTraces = false) : zk_Mt l yX4_playable cX4_playable 1 (some .long) zR_X4_playable [.ref (a 0)] (zS C a u) D C (fun A => va_Ql (fun r u' => (0, r, u') = zf_X4_playable u) (fun u' t => va_P D vwCl (zS C a u') t.heap) A) (zXE (zf_X4_playable u).1) := by
  refine zk_mt (by decide) (Nat.le_of_ble_eq_true rfl) ?_
  intro p e s m below meth c A X Y hnot hD hA
  generalize hv : zf_X4_playable u = V
  unfold zf_X4_playable at hv
  show zJ _ _ _ _ _ _ _ _ _ _ _ _ _ _ _ _ _ 0 [(0, .ref (a 0))] []
  refine zj_aload_n 1 X 0 dX4_playable_0 rfl rfl ?_
  refine zg_RX4_52 4 X (w := zuI u 6) rfl dX4_playable_1 rfl ?_
  refine zj_iconst 5 X (v := 5) dX4_playable_4 (by decide) rfl ?_
  refine zj_icmp_eq 8 18 X dX4_playable_5 (by decide) rfl (fun c1 => ?_) (fun c1 => ?_)
  · rw [if_pos c1] at hv
    refine zj_aload_n 19 X 0 dX4_playable_18 rfl rfl ?_
    refine zc_l 22 (zr_V (As := []) (rest := []) X (zc_X4_playableCards (l := l) (u := u)) zw_X4_175 zn_X4_playableCards (zcR_of rfl) zO_S0 zsI rfl (Nat.le_of_ble_eq_true rfl) dX4_playable_19) rfl ?_
    exact ze_lt (Wd := zS C a) (u := u) (by decide) (by decide) X Y hv dX4_playable_22
  · rw [if_neg c1] at hv
    exact zx_throw (text := "no card is to be played") rfl rfl X Y.2 hfl zx_fit2 zx_cl2 zx_in2 zx_st173 (zx_hat X zx_a2 zx_b2) zx_g2 hnot (zXE.mk hv (by decide)) ⟨Nat.le_of_ble_eq_true rfl, Nat.le_of_ble_eq_true rfl, Nat.le_of_ble_eq_true rfl, Nat.le_of_ble_eq_true rfl⟩ dX4_playable_8 dX4_playable_11 dX4_playable_12 dX4_playable_14 dX4_playable_17 zsI
def zk_X4_play_69 (u : zU) (p0 : Int32) (w9 : zU) : Nat × Int32 × zU := if (zf_X3_isComplete w9) = 0 then (0, (-1), zuI1 w9 7 (zf_X4_playerAfter (zuI w9 7))) else (if (zf_X4_allTricksWon (zuI1 (zf_X3_clear (zf_X2_win w9 (zf_X4_seat w9 (zf_X4_trickWinner w9)) (zf_X3_sumOfPoints w9))) 7 (zf_X4_trickWinner w9))) = 10 then (0, zf_X4_trickWinner w9, (zf_X4_endDeal (zuI1 (zf_X3_clear (zf_X2_win w9 (zf_X4_seat w9 (zf_X4_trickWinner w9)) (zf_X3_sumOfPoints w9))) 7 (zf_X4_trickWinner w9)) (zf_X4_trickWinner w9))) else (0, zf_X4_trickWinner w9, zuI1 (zf_X3_clear (zf_X2_win w9 (zf_X4_seat w9 (zf_X4_trickWinner w9)) (zf_X3_sumOfPoints w9))) 7 (zf_X4_trickWinner w9)))
def zf_X4_play (u : zU) (p0 : Int32) : Nat × Int32 × zU := if (zf_X4_isCard p0) = 0 then (3, 0, u) else (if (zuI u 6) = 5 then (if (lg_cmp ((zf_X4_playableCards u) &&& (zf_X1_setOf p0)) 0) = 0 then (2, 0, u) else zk_X4_play_69 u p0 (zf_X3_add (zf_X2_lay u (zf_X4_seat u (zuI u 7)) p0) p0)) else (2, 0, u))
abbrev zR_X4_play : Room := { frames := 6, cells := 1, slots := 6, locals := 131 }
set_option maxHeartbeats 4000000 in
set_option maxRecDepth 100000 in
theorem zc_X4_play {l : Launch} {D : va_G} {C : ClassId × ClassId} {a : Nat → Nat} {u : zU} {p0 : Int32} (hfl : l.stackTraces = false) : zk_Mt l yX4_play cX4_play 3 (some .int) zR_X4_play [.ref (a 0), .int (p0)] (zS C a u) D C (fun A => va_Qi (fun r u' => (0, r, u') = zf_X4_play u p0) (fun u' t => va_P D vwCl (zS C a u') t.heap) A) (zXE (zf_X4_play u p0).1) := by
  refine zk_mt (by decide) (Nat.le_of_ble_eq_true rfl) ?_
  intro p e s m below meth c A X Y hnot hD hA
  generalize hv : zf_X4_play u p0 = V
  unfold zf_X4_play at hv
  show zJ _ _ _ _ _ _ _ _ _ _ _ _ _ _ _ _ _ 0 [(0, .ref (a 0)), (1, .int (p0))] []
  refine zj_iload_n 1 X 1 dX4_play_0 rfl rfl ?_
  refine zc_i 4 (zr_S (As := [.int (p0)]) (rest := []) X (zc_X4_isCard (l := l) (p0 := p0)) zw_X4_114 zn_X4_isCard (zcR_of rfl) zs0 rfl (Nat.le_of_ble_eq_true rfl) dX4_play_1) rfl ?_
  refine zj_if_ne 7 17 X dX4_play_4 (by decide) rfl (fun c1 => ?_) (fun c1 => ?_)
  · rw [if_neg c1] at hv
    refine zj_aload_n 18 X 0 dX4_play_17 rfl rfl ?_
    refine zg_RX4_52 21 X (w := zuI u 6) rfl dX4_play_18 rfl ?_
    refine zj_iconst 22 X (v := 5) dX4_play_21 (by decide) rfl ?_
    refine zj_icmp_ne 25 39 X dX4_play_22 (by decide) rfl (fun c2 => ?_) (fun c2 => ?_)
    · rw [if_neg c2] at hv
      exact zx_throw (text := "this card can't be played now") rfl rfl X Y.2 hfl zx_fit2 zx_cl2 zx_in2 zx_st179 (zx_hat X zx_a2 zx_b2) zx_g2 hnot (zXE.mk hv (by decide)) ⟨Nat.le_of_ble_eq_true rfl, Nat.le_of_ble_eq_true rfl, Nat.le_of_ble_eq_true rfl, Nat.le_of_ble_eq_true rfl⟩ dX4_play_39 dX4_play_42 dX4_play_43 dX4_play_45 dX4_play_48 zsI
    · rw [if_pos c2] at hv
      refine zj_aload_n 26 X 0 dX4_play_25 rfl rfl ?_
      refine zc_l 29 (zr_V (As := []) (rest := []) X (zc_X4_playableCards (l := l) (u := u)) zw_X4_175 zn_X4_playableCards (zcR_of rfl) zO_S0 zsI rfl (Nat.le_of_ble_eq_true rfl) dX4_play_26) rfl ?_
      refine zj_iload_n 30 X 1 dX4_play_29 rfl rfl ?_
      refine zc_l 33 (zr_SN (As := [.int (p0)]) (rest := [.long (zf_X4_playableCards u)]) X (zc_X1_setOf (l := l) (p0 := p0)) zw_X4_124 zn_X1_setOf (zcR_of rfl) zs0 rfl (Nat.le_of_ble_eq_true rfl) dX4_play_30) rfl ?_
      refine zj_land 34 X dX4_play_33 rfl ?_
      refine zj_lconst 35 X (v := 0) dX4_play_34 (by decide) rfl ?_
      refine zj_lcmp 36 X dX4_play_35 rfl ?_
      refine zj_if_ne 39 49 X dX4_play_36 (by decide) rfl (fun c3 => ?_) (fun c3 => ?_)
      · rw [if_neg c3] at hv
        refine zj_aload_n 50 X 0 dX4_play_49 rfl rfl ?_
        refine zj_aload_n 51 X 0 dX4_play_50 rfl rfl ?_
        refine zg_RX4_55 54 X (w := zuI u 7) rfl dX4_play_51 rfl ?_
        refine zc_r 57 (ad := fun k => .ref (a (1 + k))) (zr_V (As := [.int (zuI u 7)]) (rest := []) X (zc_X4_seat (l := l) (p0 := zuI u 7) (u := u)) zw_X4_107 zn_X4_seat (zcR_of rfl) zO_S0 zsI rfl (Nat.le_of_ble_eq_true rfl) dX4_play_54) rfl ?_
        refine zj_iload_n 58 X 1 dX4_play_57 rfl rfl ?_
        refine zc_vm 61 (Wd := zS C a) (zr_VNm (As := [.int (p0)]) (rest := []) X (zc_X2_lay (l := l) (j := zf_X4_seat u (zuI u 7)) (p0 := p0) (u := u) (hj := (zseat_lt _ _))) zw_X4_181 zn_X2_lay (zcR_of rfl) (zO_T (j := zf_X4_seat u (zuI u 7)) (zseat_lt _ _)) (zD_S _ hD) hA rfl (Nat.le_of_ble_eq_true rfl) dX4_play_58) (zD_S _ hD) hA rfl ?_
        refine zj_aload_n 62 X 0 dX4_play_61 rfl rfl ?_
        refine zg_RX4_25 65 X dX4_play_62 rfl ?_
        refine zj_iload_n 66 X 1 dX4_play_65 rfl rfl ?_
        refine zc_vm 69 (Wd := zS C a) (zr_VNm (As := [.int (p0)]) (rest := []) X (zc_X3_add (l := l) (p0 := p0) (u := (zf_X2_lay u (zf_X4_seat u (zuI u 7)) p0))) zw_X4_184 zn_X3_add (zcR_of rfl) zO_S4 (zD_S _ hD) hA rfl (Nat.le_of_ble_eq_true rfl) dX4_play_66) (zD_S _ hD) hA rfl ?_
        have L4 : ∀ (w9 : zU), zk_X4_play_69 u p0 w9 = V → zJ p l e zR_X4_play s m ([.ref (a 0), .int (p0)] : List Value).toArray below meth c 0 0 (vx_MQ below (va_Qi (fun r u' => (0, r, u') = V) (fun u' t => va_P D vwCl (zS C a u') t.heap) A) (vx_X (fun _ : Unit => True) (fun E _ t => zXE V.1 E ∧ s.heap.size < t.heap.size ∧ va_P D vwCl (zS C a u) t.heap) A) ([.ref (a 0), .int (p0)] : List Value).toArray s 1 6 A) D (zk_Km A s) 3 (zS C a w9) 69 [(0, .ref (a 0)), (1, .int (p0))] [] := by
          intro w9 hv
          unfold zk_X4_play_69 at hv
          refine zj_aload_n 70 X 0 dX4_play_69 rfl rfl ?_
          refine zg_RX4_25 73 X dX4_play_70 rfl ?_
          refine zc_i 76 (zr_VN (As := []) (rest := []) X (zc_X3_isComplete (l := l) (u := w9)) zw_X4_187 zn_X3_isComplete (zcR_of rfl) zO_S4 zsI rfl (Nat.le_of_ble_eq_true rfl) dX4_play_73) rfl ?_
          refine zj_if_ne 79 92 X dX4_play_76 (by decide) rfl (fun c5 => ?_) (fun c5 => ?_)
          · rw [if_neg c5] at hv
            refine zj_aload_n 93 X 0 dX4_play_92 rfl rfl ?_
            refine zc_i 96 (zr_V (As := []) (rest := []) X (zc_X4_trickWinner (l := l) (u := w9) (hZ := (zcomp c5))) zw_X4_191 zn_X4_trickWinner (zcR_of rfl) zO_S0 zsI rfl (Nat.le_of_ble_eq_true rfl) dX4_play_93) rfl ?_
            refine zj_istore_n 97 X (lv1 := [(0, .ref (a 0)), (1, .int (p0)), (2, .int (zf_X4_trickWinner w9))]) [1, 2, 0] dX4_play_96 (by decide) rfl rfl ?_
            refine zj_aload_n 98 X 0 dX4_play_97 rfl rfl ?_
            refine zj_iload_n 99 X 2 dX4_play_98 rfl rfl ?_
            refine zc_r 102 (ad := fun k => .ref (a (1 + k))) (zr_V (As := [.int (zf_X4_trickWinner w9)]) (rest := []) X (zc_X4_seat (l := l) (p0 := zf_X4_trickWinner w9) (u := w9)) zw_X4_107 zn_X4_seat (zcR_of rfl) zO_S0 zsI rfl (Nat.le_of_ble_eq_true rfl) dX4_play_99) rfl ?_
            refine zj_aload_n 103 X 0 dX4_play_102 rfl rfl ?_
            refine zg_RX4_25 106 X dX4_play_103 rfl ?_
            refine zc_i 109 (zr_VN (As := []) (rest := [.ref (a (1 + zf_X4_seat w9 (zf_X4_trickWinner w9)))]) X (zc_X3_sumOfPoints (l := l) (u := w9) (hZ := (zcomp c5))) zw_X4_195 zn_X3_sumOfPoints (zcR_of rfl) zO_S4 zsI rfl (Nat.le_of_ble_eq_true rfl) dX4_play_106) rfl ?_
            refine zc_vm 112 (Wd := zS C a) (zr_VNm (As := [.int (zf_X3_sumOfPoints w9)]) (rest := []) X (zc_X2_win (l := l) (j := zf_X4_seat w9 (zf_X4_trickWinner w9)) (p0 := zf_X3_sumOfPoints w9) (u := w9) (hj := (zseat_lt _ _))) zw_X4_198 zn_X2_win (zcR_of rfl) (zO_T (j := zf_X4_seat w9 (zf_X4_trickWinner w9)) (zseat_lt _ _)) (zD_S _ hD) hA rfl (Nat.le_of_ble_eq_true rfl) dX4_play_109) (zD_S _ hD) hA rfl ?_
            refine zj_aload_n 113 X 0 dX4_play_112 rfl rfl ?_
            refine zg_RX4_25 116 X dX4_play_113 rfl ?_
            refine zc_vm 119 (Wd := zS C a) (zr_VNm (As := []) (rest := []) X (zc_X3_clear (l := l) (u := (zf_X2_win w9 (zf_X4_seat w9 (zf_X4_trickWinner w9)) (zf_X3_sumOfPoints w9)))) zw_X4_201 zn_X3_clear (zcR_of rfl) zO_S4 (zD_S _ hD) hA rfl (Nat.le_of_ble_eq_true rfl) dX4_play_116) (zD_S _ hD) hA rfl ?_
            refine zj_aload_n 120 X 0 dX4_play_119 rfl rfl ?_
            refine zj_iload_n 121 X 2 dX4_play_120 rfl rfl ?_
            refine zp_RX4_55 124 X (zD_S _ hD) dX4_play_121 rfl ?_
            refine zj_aload_n 125 X 0 dX4_play_124 rfl rfl ?_
            refine zc_i 128 (zr_V (As := []) (rest := []) X (zc_X4_allTricksWon (l := l) (u := zuI1 (zf_X3_clear (zf_X2_win w9 (zf_X4_seat w9 (zf_X4_trickWinner w9)) (zf_X3_sumOfPoints w9))) 7 (zf_X4_trickWinner w9))) zw_X4_204 zn_X4_allTricksWon (zcR_of rfl) zO_S0 zsI rfl (Nat.le_of_ble_eq_true rfl) dX4_play_125) rfl ?_
            refine zj_bipush 130 X (v := 10) dX4_play_128 (by decide) rfl ?_
            refine zj_icmp_ne 133 138 X dX4_play_130 (by decide) rfl (fun c6 => ?_) (fun c6 => ?_)
            · rw [if_neg c6] at hv
              refine zj_iload_n 139 X 2 dX4_play_138 rfl rfl ?_
              exact ze_it (Wd := zS C a) (u := zuI1 (zf_X3_clear (zf_X2_win w9 (zf_X4_seat w9 (zf_X4_trickWinner w9)) (zf_X3_sumOfPoints w9))) 7 (zf_X4_trickWinner w9)) (by decide) (by decide) X Y hv dX4_play_139
            · rw [if_pos c6] at hv
              refine zj_aload_n 134 X 0 dX4_play_133 rfl rfl ?_
              refine zj_iload_n 135 X 2 dX4_play_134 rfl rfl ?_
              refine zc_vm 138 (Wd := zS C a) (zr_Vm (As := [.int (zf_X4_trickWinner w9)]) (rest := []) X (zc_X4_endDeal (l := l) (p0 := zf_X4_trickWinner w9) (u := zuI1 (zf_X3_clear (zf_X2_win w9 (zf_X4_seat w9 (zf_X4_trickWinner w9)) (zf_X3_sumOfPoints w9))) 7 (zf_X4_trickWinner w9))) zw_X4_207 zn_X4_endDeal (zcR_of rfl) zO_S0 (zD_S _ hD) hA rfl (Nat.le_of_ble_eq_true rfl) dX4_play_135) (zD_S _ hD) hA rfl ?_
              refine zj_iload_n 139 X 2 dX4_play_138 rfl rfl ?_
              exact ze_it (Wd := zS C a) (u := (zf_X4_endDeal (zuI1 (zf_X3_clear (zf_X2_win w9 (zf_X4_seat w9 (zf_X4_trickWinner w9)) (zf_X3_sumOfPoints w9))) 7 (zf_X4_trickWinner w9)) (zf_X4_trickWinner w9))) (by decide) (by decide) X Y hv dX4_play_139
          · rw [if_pos c5] at hv
            refine zj_aload_n 80 X 0 dX4_play_79 rfl rfl ?_
            refine zj_aload_n 81 X 0 dX4_play_80 rfl rfl ?_
            refine zg_RX4_55 84 X (w := zuI w9 7) rfl dX4_play_81 rfl ?_
            refine zc_i 87 (zr_S (As := [.int (zuI w9 7)]) (rest := [.ref (a 0)]) X (zc_X4_playerAfter (l := l) (p0 := zuI w9 7)) zw_X4_48 zn_X4_playerAfter (zcR_of rfl) zs0 rfl (Nat.le_of_ble_eq_true rfl) dX4_play_84) rfl ?_
            refine zp_RX4_55 90 X (zD_S _ hD) dX4_play_87 rfl ?_
            refine zj_iconst 91 X (v := (-1)) dX4_play_90 (by decide) rfl ?_
            exact ze_it (Wd := zS C a) (u := zuI1 w9 7 (zf_X4_playerAfter (zuI w9 7))) (by decide) (by decide) X Y hv dX4_play_91
        exact L4 (zf_X3_add (zf_X2_lay u (zf_X4_seat u (zuI u 7)) p0) p0)  hv
      · rw [if_pos c3] at hv
        exact zx_throw (text := "this card can't be played now") rfl rfl X Y.2 hfl zx_fit2 zx_cl2 zx_in2 zx_st179 (zx_hat X zx_a2 zx_b2) zx_g2 hnot (zXE.mk hv (by decide)) ⟨Nat.le_of_ble_eq_true rfl, Nat.le_of_ble_eq_true rfl, Nat.le_of_ble_eq_true rfl, Nat.le_of_ble_eq_true rfl⟩ dX4_play_39 dX4_play_42 dX4_play_43 dX4_play_45 dX4_play_48 zsI
  · rw [if_pos c1] at hv
    exact zx_throw (text := "there is no such card") rfl rfl X Y.2 hfl zx_fit3 zx_cl3 zx_in3 zx_st119 (zx_hat X zx_a3 zx_b3) zx_g3 hnot (zXE.mk hv (by decide)) ⟨Nat.le_of_ble_eq_true rfl, Nat.le_of_ble_eq_true rfl, Nat.le_of_ble_eq_true rfl, Nat.le_of_ble_eq_true rfl⟩ dX4_play_7 dX4_play_10 dX4_play_11 dX4_play_13 dX4_play_16 zsI
def zf_X4_hand (u : zU) (p0 : Int32) : Nat × Int64 × zU := if (zf_X4_refuseNoPlayer u p0).1 = 0 then (0, zuC u (zf_X4_seat u p0), u) else ((zf_X4_refuseNoPlayer u p0).1, 0, u)
abbrev zR_X4_hand : Room := { frames := 7, cells := 1, slots := 6, locals := 110 }
set_option maxHeartbeats 4000000 in
set_option maxRecDepth 100000 in
theorem zc_X4_hand {l : Launch} {D : va_G} {C : ClassId × ClassId} {a : Nat → Nat} {u : zU} {p0 : Int32} (hfl : l.stackTraces = false) : zk_Mt l yX4_hand cX4_hand 2 (some .long) zR_X4_hand [.ref (a 0), .int (p0)] (zS C a u) D C (fun A => va_Ql (fun r u' => (0, r, u') = zf_X4_hand u p0) (fun u' t => va_P D vwCl (zS C a u') t.heap) A) (zXE (zf_X4_hand u p0).1) := by
  refine zk_mt (by decide) (Nat.le_of_ble_eq_true rfl) ?_
  intro p e s m below meth c A X Y hnot hD hA
  generalize hv : zf_X4_hand u p0 = V
  unfold zf_X4_hand at hv
  show zJ _ _ _ _ _ _ _ _ _ _ _ _ _ _ _ _ _ 0 [(0, .ref (a 0)), (1, .int (p0))] []
  refine zj_iload_n 1 X 1 dX4_hand_0 rfl rfl ?_
  refine zc_vt 4 (Wd := zS C a) rfl rfl X Y.2 (zr_St (As := [.int (p0)]) (rest := []) X (zc_X4_refuseNoPlayer (l := l) (p0 := p0) (u := u) (hfl := hfl)) zw_X4_161 zn_X4_refuseNoPlayer (zcR_of rfl) (zD_S _ hD) hA rfl (Nat.le_of_ble_eq_true rfl) dX4_hand_1) (zD_S _ hD) hA hnot rfl (fun c1 => ?_) (fun c1 => by rw [if_neg c1] at hv; exact zXE.mk hv c1)
  rw [if_pos c1] at hv
  rw [zrnp u p0]
  refine zj_aload_n 5 X 0 dX4_hand_4 rfl rfl ?_
  refine zj_iload_n 6 X 1 dX4_hand_5 rfl rfl ?_
  refine zc_r 9 (ad := fun k => .ref (a (1 + k))) (zr_V (As := [.int (p0)]) (rest := []) X (zc_X4_seat (l := l) (p0 := p0) (u := u)) zw_X4_107 zn_X4_seat (zcR_of rfl) zO_S0 zsI rfl (Nat.le_of_ble_eq_true rfl) dX4_hand_6) rfl ?_
  refine zg_RX4_111 12 (zf_X4_seat u p0) (zseat_lt _ _) X (w := zuC u (zf_X4_seat u p0)) rfl dX4_hand_9 rfl ?_
  exact ze_lt (Wd := zS C a) (u := u) (by decide) (by decide) X Y hv dX4_hand_12
def zf_X4_inTrick (u : zU) (p0 : Int32) : Nat × Int32 × zU := if p0 < 0 then (1, 0, u) else (if p0 < 3 then (0, zf_X3_cardAt u p0, u) else (1, 0, u))
abbrev zR_X4_inTrick : Room := { frames := 6, cells := 1, slots := 6, locals := 90 }
set_option maxHeartbeats 4000000 in
set_option maxRecDepth 100000 in
theorem zc_X4_inTrick {l : Launch} {D : va_G} {C : ClassId × ClassId} {a : Nat → Nat} {u : zU} {p0 : Int32} (hfl : l.stackTraces = false) : zk_Mt l yX4_inTrick cX4_inTrick 2 (some .int) zR_X4_inTrick [.ref (a 0), .int (p0)] (zS C a u) D C (fun A => va_Qi (fun r u' => (0, r, u') = zf_X4_inTrick u p0) (fun u' t => va_P D vwCl (zS C a u') t.heap) A) (zXE (zf_X4_inTrick u p0).1) := by
  refine zk_mt (by decide) (Nat.le_of_ble_eq_true rfl) ?_
  intro p e s m below meth c A X Y hnot hD hA
  generalize hv : zf_X4_inTrick u p0 = V
  unfold zf_X4_inTrick at hv
  show zJ _ _ _ _ _ _ _ _ _ _ _ _ _ _ _ _ _ 0 [(0, .ref (a 0)), (1, .int (p0))] []
  refine zj_iload_n 1 X 1 dX4_inTrick_0 rfl rfl ?_
  refine zj_if_lt 4 9 X dX4_inTrick_1 (by decide) rfl (fun c1 => ?_) (fun c1 => ?_)
  · rw [if_pos c1] at hv
    exact zx_throw (text := "a trick has the places 0 to 2") rfl rfl X Y.2 hfl zx_fit1 zx_cl1 zx_in1 zx_st210 (zx_hat X zx_a1 zx_b1) zx_g1 hnot (zXE.mk hv (by decide)) ⟨Nat.le_of_ble_eq_true rfl, Nat.le_of_ble_eq_true rfl, Nat.le_of_ble_eq_true rfl, Nat.le_of_ble_eq_true rfl⟩ dX4_inTrick_9 dX4_inTrick_12 dX4_inTrick_13 dX4_inTrick_15 dX4_inTrick_18 zsI
  · rw [if_neg c1] at hv
    refine zj_iload_n 5 X 1 dX4_inTrick_4 rfl rfl ?_
    refine zj_iconst 6 X (v := 3) dX4_inTrick_5 (by decide) rfl ?_
    refine zj_icmp_lt 9 19 X dX4_inTrick_6 (by decide) rfl (fun c2 => ?_) (fun c2 => ?_)
    · rw [if_pos c2] at hv
      refine zj_aload_n 20 X 0 dX4_inTrick_19 rfl rfl ?_
      refine zg_RX4_25 23 X dX4_inTrick_20 rfl ?_
      refine zj_iload_n 24 X 1 dX4_inTrick_23 rfl rfl ?_
      refine zc_i 27 (zr_VN (As := [.int (p0)]) (rest := []) X (zc_X3_cardAt (l := l) (p0 := p0) (u := u)) zw_X4_212 zn_X3_cardAt (zcR_of rfl) zO_S4 zsI rfl (Nat.le_of_ble_eq_true rfl) dX4_inTrick_24) rfl ?_
      exact ze_it (Wd := zS C a) (u := u) (by decide) (by decide) X Y hv dX4_inTrick_27
    · rw [if_neg c2] at hv
      exact zx_throw (text := "a trick has the places 0 to 2") rfl rfl X Y.2 hfl zx_fit1 zx_cl1 zx_in1 zx_st210 (zx_hat X zx_a1 zx_b1) zx_g1 hnot (zXE.mk hv (by decide)) ⟨Nat.le_of_ble_eq_true rfl, Nat.le_of_ble_eq_true rfl, Nat.le_of_ble_eq_true rfl, Nat.le_of_ble_eq_true rfl⟩ dX4_inTrick_9 dX4_inTrick_12 dX4_inTrick_13 dX4_inTrick_15 dX4_inTrick_18 zsI
def zf_X4_points (u : zU) (p0 : Int32) : Nat × Int32 × zU := if (zf_X4_refuseNoPlayer u p0).1 = 0 then (0, zuP u (zf_X4_seat u p0), u) else ((zf_X4_refuseNoPlayer u p0).1, 0, u)
abbrev zR_X4_points : Room := { frames := 7, cells := 1, slots := 6, locals := 110 }
set_option maxHeartbeats 4000000 in
set_option maxRecDepth 100000 in
theorem zc_X4_points {l : Launch} {D : va_G} {C : ClassId × ClassId} {a : Nat → Nat} {u : zU} {p0 : Int32} (hfl : l.stackTraces = false) : zk_Mt l yX4_points cX4_points 2 (some .int) zR_X4_points [.ref (a 0), .int (p0)] (zS C a u) D C (fun A => va_Qi (fun r u' => (0, r, u') = zf_X4_points u p0) (fun u' t => va_P D vwCl (zS C a u') t.heap) A) (zXE (zf_X4_points u p0).1) := by
  refine zk_mt (by decide) (Nat.le_of_ble_eq_true rfl) ?_
  intro p e s m below meth c A X Y hnot hD hA
  generalize hv : zf_X4_points u p0 = V
  unfold zf_X4_points at hv
  show zJ _ _ _ _ _ _ _ _ _ _ _ _ _ _ _ _ _ 0 [(0, .ref (a 0)), (1, .int (p0))] []
  refine zj_iload_n 1 X 1 dX4_points_0 rfl rfl ?_
  refine zc_vt 4 (Wd := zS C a) rfl rfl X Y.2 (zr_St (As := [.int (p0)]) (rest := []) X (zc_X4_refuseNoPlayer (l := l) (p0 := p0) (u := u) (hfl := hfl)) zw_X4_161 zn_X4_refuseNoPlayer (zcR_of rfl) (zD_S _ hD) hA rfl (Nat.le_of_ble_eq_true rfl) dX4_points_1) (zD_S _ hD) hA hnot rfl (fun c1 => ?_) (fun c1 => by rw [if_neg c1] at hv; exact zXE.mk hv c1)
  rw [if_pos c1] at hv
  rw [zrnp u p0]
  refine zj_aload_n 5 X 0 dX4_points_4 rfl rfl ?_
  refine zj_iload_n 6 X 1 dX4_points_5 rfl rfl ?_
  refine zc_r 9 (ad := fun k => .ref (a (1 + k))) (zr_V (As := [.int (p0)]) (rest := []) X (zc_X4_seat (l := l) (p0 := p0) (u := u)) zw_X4_107 zn_X4_seat (zcR_of rfl) zO_S0 zsI rfl (Nat.le_of_ble_eq_true rfl) dX4_points_6) rfl ?_
  refine zg_RX4_155 12 (zf_X4_seat u p0) (zseat_lt _ _) X (w := zuP u (zf_X4_seat u p0)) rfl dX4_points_9 rfl ?_
  exact ze_it (Wd := zS C a) (u := u) (by decide) (by decide) X Y hv dX4_points_12
def zf_X4_tricks (u : zU) (p0 : Int32) : Nat × Int32 × zU := if (zf_X4_refuseNoPlayer u p0).1 = 0 then (0, zuT u (zf_X4_seat u p0), u) else ((zf_X4_refuseNoPlayer u p0).1, 0, u)
abbrev zR_X4_tricks : Room := { frames := 7, cells := 1, slots := 6, locals := 110 }
set_option maxHeartbeats 4000000 in
set_option maxRecDepth 100000 in
theorem zc_X4_tricks {l : Launch} {D : va_G} {C : ClassId × ClassId} {a : Nat → Nat} {u : zU} {p0 : Int32} (hfl : l.stackTraces = false) : zk_Mt l yX4_tricks cX4_tricks 2 (some .int) zR_X4_tricks [.ref (a 0), .int (p0)] (zS C a u) D C (fun A => va_Qi (fun r u' => (0, r, u') = zf_X4_tricks u p0) (fun u' t => va_P D vwCl (zS C a u') t.heap) A) (zXE (zf_X4_tricks u p0).1) := by
  refine zk_mt (by decide) (Nat.le_of_ble_eq_true rfl) ?_
  intro p e s m below meth c A X Y hnot hD hA
  generalize hv : zf_X4_tricks u p0 = V
  unfold zf_X4_tricks at hv
  show zJ _ _ _ _ _ _ _ _ _ _ _ _ _ _ _ _ _ 0 [(0, .ref (a 0)), (1, .int (p0))] []
  refine zj_iload_n 1 X 1 dX4_tricks_0 rfl rfl ?_
  refine zc_vt 4 (Wd := zS C a) rfl rfl X Y.2 (zr_St (As := [.int (p0)]) (rest := []) X (zc_X4_refuseNoPlayer (l := l) (p0 := p0) (u := u) (hfl := hfl)) zw_X4_161 zn_X4_refuseNoPlayer (zcR_of rfl) (zD_S _ hD) hA rfl (Nat.le_of_ble_eq_true rfl) dX4_tricks_1) (zD_S _ hD) hA hnot rfl (fun c1 => ?_) (fun c1 => by rw [if_neg c1] at hv; exact zXE.mk hv c1)
  rw [if_pos c1] at hv
  rw [zrnp u p0]
  refine zj_aload_n 5 X 0 dX4_tricks_4 rfl rfl ?_
  refine zj_iload_n 6 X 1 dX4_tricks_5 rfl rfl ?_
  refine zc_r 9 (ad := fun k => .ref (a (1 + k))) (zr_V (As := [.int (p0)]) (rest := []) X (zc_X4_seat (l := l) (p0 := p0) (u := u)) zw_X4_107 zn_X4_seat (zcR_of rfl) zO_S0 zsI rfl (Nat.le_of_ble_eq_true rfl) dX4_tricks_6) rfl ?_
  refine zg_RX4_215 12 (zf_X4_seat u p0) (zseat_lt _ _) X (w := zuT u (zf_X4_seat u p0)) rfl dX4_tricks_9 rfl ?_
  exact ze_it (Wd := zS C a) (u := u) (by decide) (by decide) X Y hv dX4_tricks_12
def zf_X4_value (u : zU) : Nat × Int32 × zU := if (zuI u 12) = (-1) then (2, 0, u) else (if (zuI u 12) = 6 then (0, zf_X4_mostPoints u, u) else (0, zf_X4_raisedToBid u (zf_X4_valueBeforeRaising u), u))
abbrev zR_X4_value : Room := { frames := 6, cells := 1, slots := 6, locals := 90 }
set_option maxHeartbeats 4000000 in
set_option maxRecDepth 100000 in
theorem zc_X4_value {l : Launch} {D : va_G} {C : ClassId × ClassId} {a : Nat → Nat} {u : zU} (hfl : l.stackTraces = false) : zk_Mt l yX4_value cX4_value 1 (some .int) zR_X4_value [.ref (a 0)] (zS C a u) D C (fun A => va_Qi (fun r u' => (0, r, u') = zf_X4_value u) (fun u' t => va_P D vwCl (zS C a u') t.heap) A) (zXE (zf_X4_value u).1) := by
  refine zk_mt (by decide) (Nat.le_of_ble_eq_true rfl) ?_
  intro p e s m below meth c A X Y hnot hD hA
  generalize hv : zf_X4_value u = V
  unfold zf_X4_value at hv
  show zJ _ _ _ _ _ _ _ _ _ _ _ _ _ _ _ _ _ 0 [(0, .ref (a 0))] []
  refine zj_aload_n 1 X 0 dX4_value_0 rfl rfl ?_
  refine zg_RX4_158 4 X (w := zuI u 12) rfl dX4_value_1 rfl ?_
  refine zj_iconst 5 X (v := (-1)) dX4_value_4 (by decide) rfl ?_
  refine zj_icmp_ne 8 18 X dX4_value_5 (by decide) rfl (fun c1 => ?_) (fun c1 => ?_)
  · rw [if_neg c1] at hv
    refine zj_aload_n 19 X 0 dX4_value_18 rfl rfl ?_
    refine zg_RX4_158 22 X (w := zuI u 12) rfl dX4_value_19 rfl ?_
    refine zj_bipush 24 X (v := 6) dX4_value_22 (by decide) rfl ?_
    refine zj_icmp_ne 27 32 X dX4_value_24 (by decide) rfl (fun c2 => ?_) (fun c2 => ?_)
    · rw [if_neg c2] at hv
      refine zj_aload_n 33 X 0 dX4_value_32 rfl rfl ?_
      refine zj_aload_n 34 X 0 dX4_value_33 rfl rfl ?_
      refine zc_i 37 (zr_V (As := []) (rest := [.ref (a 0)]) X (zc_X4_valueBeforeRaising (l := l) (u := u)) zw_X4_223 zn_X4_valueBeforeRaising (zcR_of rfl) zO_S0 zsI rfl (Nat.le_of_ble_eq_true rfl) dX4_value_34) rfl ?_
      refine zc_i 40 (zr_V (As := [.int (zf_X4_valueBeforeRaising u)]) (rest := []) X (zc_X4_raisedToBid (l := l) (p0 := zf_X4_valueBeforeRaising u) (u := u)) zw_X4_226 zn_X4_raisedToBid (zcR_of rfl) zO_S0 zsI rfl (Nat.le_of_ble_eq_true rfl) dX4_value_37) rfl ?_
      exact ze_it (Wd := zS C a) (u := u) (by decide) (by decide) X Y hv dX4_value_40
    · rw [if_pos c2] at hv
      refine zj_aload_n 28 X 0 dX4_value_27 rfl rfl ?_
      refine zc_i 31 (zr_V (As := []) (rest := []) X (zc_X4_mostPoints (l := l) (u := u)) zw_X4_220 zn_X4_mostPoints (zcR_of rfl) zO_S0 zsI rfl (Nat.le_of_ble_eq_true rfl) dX4_value_28) rfl ?_
      exact ze_it (Wd := zS C a) (u := u) (by decide) (by decide) X Y hv dX4_value_31
  · rw [if_pos c1] at hv
    exact zx_throw (text := "there is no contract yet") rfl rfl X Y.2 hfl zx_fit2 zx_cl2 zx_in2 zx_st218 (zx_hat X zx_a2 zx_b2) zx_g2 hnot (zXE.mk hv (by decide)) ⟨Nat.le_of_ble_eq_true rfl, Nat.le_of_ble_eq_true rfl, Nat.le_of_ble_eq_true rfl, Nat.le_of_ble_eq_true rfl⟩ dX4_value_8 dX4_value_11 dX4_value_12 dX4_value_14 dX4_value_17 zsI
def zf_X4_score (u : zU) (p0 : Int32) : Nat × Int32 × zU := if (zf_X4_refuseNoPlayer u p0).1 = 0 then (0, zuO u (zf_X4_seat u p0), u) else ((zf_X4_refuseNoPlayer u p0).1, 0, u)
abbrev zR_X4_score : Room := { frames := 7, cells := 1, slots := 6, locals := 110 }
set_option maxHeartbeats 4000000 in
set_option maxRecDepth 100000 in
theorem zc_X4_score {l : Launch} {D : va_G} {C : ClassId × ClassId} {a : Nat → Nat} {u : zU} {p0 : Int32} (hfl : l.stackTraces = false) : zk_Mt l yX4_score cX4_score 2 (some .int) zR_X4_score [.ref (a 0), .int (p0)] (zS C a u) D C (fun A => va_Qi (fun r u' => (0, r, u') = zf_X4_score u p0) (fun u' t => va_P D vwCl (zS C a u') t.heap) A) (zXE (zf_X4_score u p0).1) := by
  refine zk_mt (by decide) (Nat.le_of_ble_eq_true rfl) ?_
  intro p e s m below meth c A X Y hnot hD hA
  generalize hv : zf_X4_score u p0 = V
  unfold zf_X4_score at hv
  show zJ _ _ _ _ _ _ _ _ _ _ _ _ _ _ _ _ _ 0 [(0, .ref (a 0)), (1, .int (p0))] []
  refine zj_iload_n 1 X 1 dX4_score_0 rfl rfl ?_
  refine zc_vt 4 (Wd := zS C a) rfl rfl X Y.2 (zr_St (As := [.int (p0)]) (rest := []) X (zc_X4_refuseNoPlayer (l := l) (p0 := p0) (u := u) (hfl := hfl)) zw_X4_161 zn_X4_refuseNoPlayer (zcR_of rfl) (zD_S _ hD) hA rfl (Nat.le_of_ble_eq_true rfl) dX4_score_1) (zD_S _ hD) hA hnot rfl (fun c1 => ?_) (fun c1 => by rw [if_neg c1] at hv; exact zXE.mk hv c1)
  rw [if_pos c1] at hv
  rw [zrnp u p0]
  refine zj_aload_n 5 X 0 dX4_score_4 rfl rfl ?_
  refine zj_iload_n 6 X 1 dX4_score_5 rfl rfl ?_
  refine zc_r 9 (ad := fun k => .ref (a (1 + k))) (zr_V (As := [.int (p0)]) (rest := []) X (zc_X4_seat (l := l) (p0 := p0) (u := u)) zw_X4_107 zn_X4_seat (zcR_of rfl) zO_S0 zsI rfl (Nat.le_of_ble_eq_true rfl) dX4_score_6) rfl ?_
  refine zg_RX4_229 12 (zf_X4_seat u p0) (zseat_lt _ _) X (w := zuO u (zf_X4_seat u p0)) rfl dX4_score_9 rfl ?_
  exact ze_it (Wd := zS C a) (u := u) (by decide) (by decide) X Y hv dX4_score_12
