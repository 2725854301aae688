def zf_X4_startDeal (u : zU) (p0 : Int32) : zU := (zf_X4_startBidding (zuI1 (zuI1 (zuI1 (zuI1 (zuI1 (zf_X4_giveCards (zf_X4_shuffle (zf_X3_clear (zf_X2_startDeal (zf_X2_startDeal (zf_X2_startDeal u 0) 1) 2)) p0)) 10 0) 11 (-1)) 12 (-1)) 13 0) 14 0) (zf_X4_playerAfter (zuI (zf_X4_giveCards (zf_X4_shuffle (zf_X3_clear (zf_X2_startDeal (zf_X2_startDeal (zf_X2_startDeal u 0) 1) 2)) p0)) 5)) (zuI (zf_X4_giveCards (zf_X4_shuffle (zf_X3_clear (zf_X2_startDeal (zf_X2_startDeal (zf_X2_startDeal u 0) 1) 2)) p0)) 5))
abbrev zR_X4_startDeal : Room := { frames := 2, cells := 0, slots := 0, locals := 47 }
set_option maxHeartbeats 4000000 in
set_option maxRecDepth 100000 in
theorem zc_X4_startDeal {l : Launch} {D : va_G} {C : ClassId × ClassId} {a : Nat → Nat} {u : zU} {p0 : Int32} : zk_Mm l yX4_startDeal cX4_startDeal 2 none zR_X4_startDeal [.ref (a 0), .int (p0)] (zS C a u) D C (fun A => va_Qv (fun u' => u' = zf_X4_startDeal u p0) (fun u' t => va_P D vwCl (zS C a u') t.heap) A) := by
  refine zk_mm (by decide) (Nat.le_of_ble_eq_true rfl) ?_
  intro p e s m below meth c A X Y hD hA
  generalize hv : zf_X4_startDeal u p0 = V
  unfold zf_X4_startDeal at hv
  show zJ _ _ _ _ _ _ _ _ _ _ _ _ _ _ _ _ _ 0 [(0, .ref (a 0)), (1, .int (p0))] []
  refine zj_aload_n 1 X 0 dX4_startDeal_0 rfl rfl ?_
  refine zg_RX4_10 4 X dX4_startDeal_1 rfl ?_
  refine zc_vm 7 (Wd := zS C a) (zr_VNm (As := []) (rest := []) X (zc_X2_startDeal (l := l) (j := 0) (u := u) (hj := (by decide))) zw_X4_234 zn_X2_startDeal (zcR_of rfl) (zO_T (j := 0) (by decide)) (zD_S _ hD) hA rfl (Nat.le_of_ble_eq_true rfl) dX4_startDeal_4) (zD_S _ hD) hA rfl ?_
  refine zj_aload_n 8 X 0 dX4_startDeal_7 rfl rfl ?_
  refine zg_RX4_16 11 X dX4_startDeal_8 rfl ?_
  refine zc_vm 14 (Wd := zS C a) (zr_VNm (As := []) (rest := []) X (zc_X2_startDeal (l := l) (j := 1) (u := (zf_X2_startDeal u 0)) (hj := (by decide))) zw_X4_234 zn_X2_startDeal (zcR_of rfl) (zO_T (j := 1) (by decide)) (zD_S _ hD) hA rfl (Nat.le_of_ble_eq_true rfl) dX4_startDeal_11) (zD_S _ hD) hA rfl ?_
  refine zj_aload_n 15 X 0 dX4_startDeal_14 rfl rfl ?_
  refine zg_RX4_19 18 X dX4_startDeal_15 rfl ?_
  refine zc_vm 21 (Wd := zS C a) (zr_VNm (As := []) (rest := []) X (zc_X2_startDeal (l := l) (j := 2) (u := (zf_X2_startDeal (zf_X2_startDeal u 0) 1)) (hj := (by decide))) zw_X4_234 zn_X2_startDeal (zcR_of rfl) (zO_T (j := 2) (by decide)) (zD_S _ hD) hA rfl (Nat.le_of_ble_eq_true rfl) dX4_startDeal_18) (zD_S _ hD) hA rfl ?_
  refine zj_aload_n 22 X 0 dX4_startDeal_21 rfl rfl ?_
  refine zg_RX4_25 25 X dX4_startDeal_22 rfl ?_
  refine zc_vm 28 (Wd := zS C a) (zr_VNm (As := []) (rest := []) X (zc_X3_clear (l := l) (u := (zf_X2_startDeal (zf_X2_startDeal (zf_X2_startDeal u 0) 1) 2))) zw_X4_201 zn_X3_clear (zcR_of rfl) zO_S4 (zD_S _ hD) hA rfl (Nat.le_of_ble_eq_true rfl) dX4_startDeal_25) (zD_S _ hD) hA rfl ?_
  refine zj_aload_n 29 X 0 dX4_startDeal_28 rfl rfl ?_
  refine zj_iload_n 30 X 1 dX4_startDeal_29 rfl rfl ?_
  refine zc_vm 33 (Wd := zS C a) (zr_Vm (As := [.int (p0)]) (rest := []) X (zc_X4_shuffle (l := l) (p0 := p0) (u := (zf_X3_clear (zf_X2_startDeal (zf_X2_startDeal (zf_X2_startDeal u 0) 1) 2)))) zw_X4_236 zn_X4_shuffle (zcR_of rfl) zO_S0 (zD_S _ hD) hA rfl (Nat.le_of_ble_eq_true rfl) dX4_startDeal_30) (zD_S _ hD) hA rfl ?_
  refine zj_aload_n 34 X 0 dX4_startDeal_33 rfl rfl ?_
  refine zc_vm 37 (Wd := zS C a) (zr_Vm (As := []) (rest := []) X (zc_X4_giveCards (l := l) (u := (zf_X4_shuffle (zf_X3_clear (zf_X2_startDeal (zf_X2_startDeal (zf_X2_startDeal u 0) 1) 2)) p0))) zw_X4_239 zn_X4_giveCards (zcR_of rfl) zO_S0 (zD_S _ hD) hA rfl (Nat.le_of_ble_eq_true rfl) dX4_startDeal_34) (zD_S _ hD) hA rfl ?_
  obtain ⟨gg1, hgg1⟩ : ∃ z : zU, z = zf_X4_giveCards (zf_X4_shuffle (zf_X3_clear (zf_X2_startDeal (zf_X2_startDeal (zf_X2_startDeal u 0) 1) 2)) p0) := ⟨_, rfl⟩
  rw [← hgg1] at hv ⊢
  refine zj_aload_n 38 X 0 dX4_startDeal_37 rfl rfl ?_
  refine zj_iconst 39 X (v := 0) dX4_startDeal_38 (by decide) rfl ?_
  refine zp_RX4_66 42 X (zD_S _ hD) dX4_startDeal_39 rfl ?_
  refine zj_aload_n 43 X 0 dX4_startDeal_42 rfl rfl ?_
  refine zj_iconst 44 X (v := (-1)) dX4_startDeal_43 (by decide) rfl ?_
  refine zp_RX4_98 47 X (zD_S _ hD) dX4_startDeal_44 rfl ?_
  refine zj_aload_n 48 X 0 dX4_startDeal_47 rfl rfl ?_
  refine zj_iconst 49 X (v := (-1)) dX4_startDeal_48 (by decide) rfl ?_
  refine zp_RX4_158 52 X (zD_S _ hD) dX4_startDeal_49 rfl ?_
  refine zj_aload_n 53 X 0 dX4_startDeal_52 rfl rfl ?_
  refine zj_iconst 54 X (v := 0) dX4_startDeal_53 (by decide) rfl ?_
  refine zp_RX4_148 57 X (zD_S _ hD) dX4_startDeal_54 rfl ?_
  refine zj_aload_n 58 X 0 dX4_startDeal_57 rfl rfl ?_
  refine zj_iconst 59 X (v := 0) dX4_startDeal_58 (by decide) rfl ?_
  refine zp_RX4_151 62 X (zD_S _ hD) (by decide) dX4_startDeal_59 rfl ?_
  refine zj_aload_n 63 X 0 dX4_startDeal_62 rfl rfl ?_
  refine zj_aload_n 64 X 0 dX4_startDeal_63 rfl rfl ?_
  refine zg_RX4_33 67 X (w := zuI gg1 5) rfl dX4_startDeal_64 rfl ?_
  refine zc_i 70 (zr_S (As := [.int (zuI gg1 5)]) (rest := [.ref (a 0)]) X (zc_X4_playerAfter (l := l) (p0 := zuI gg1 5)) zw_X4_48 zn_X4_playerAfter (zcR_of rfl) zs0 rfl (Nat.le_of_ble_eq_true rfl) dX4_startDeal_67) rfl ?_
  refine zj_aload_n 71 X 0 dX4_startDeal_70 rfl rfl ?_
  refine zg_RX4_33 74 X (w := zuI gg1 5) rfl dX4_startDeal_71 rfl ?_
  refine zc_vm 77 (Wd := zS C a) (zr_Vm (As := [.int (zf_X4_playerAfter (zuI gg1 5)), .int (zuI gg1 5)]) (rest := []) X (zc_X4_startBidding (l := l) (p0 := zf_X4_playerAfter (zuI gg1 5)) (p1 := zuI gg1 5) (u := zuI1 (zuI1 (zuI1 (zuI1 (zuI1 gg1 10 0) 11 (-1)) 12 (-1)) 13 0) 14 0)) zw_X4_242 zn_X4_startBidding (zcR_of rfl) zO_S0 (zD_S _ hD) hA rfl (Nat.le_of_ble_eq_true rfl) dX4_startDeal_74) (zD_S _ hD) hA rfl ?_
  exact ze_vm (Wd := zS C a) (u := (zf_X4_startBidding (zuI1 (zuI1 (zuI1 (zuI1 (zuI1 gg1 10 0) 11 (-1)) 12 (-1)) 13 0) 14 0) (zf_X4_playerAfter (zuI gg1 5)) (zuI gg1 5))) X Y hv dX4_startDeal_77
