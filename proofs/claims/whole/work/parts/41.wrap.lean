def zw_deal (w : zU × (Nat → Int64)) (p0 : Int32) : Int32 × (zU × (Nat → Int64)) := if (zf_X4_deal (w.1) p0).1 = 0 then (0, ((zf_X4_deal (w.1) p0).2.2, vp_updL w.2 0 ((zf_X4_deal (w.1) p0).2.1.toInt64))) else (1, w)
set_option maxHeartbeats 2000000 in
theorem zcd_deal (u : zU) (p0 : Int32) : (zf_X4_deal u p0).1 = 0 ∨ (zf_X4_deal u p0).1 = 1 := by
  simp only [zf_X4_deal]
  repeat' split
  all_goals first | (simp; done) | simp_all
abbrev zR_L_deal : Room := { frames := 7, cells := 1, slots := 6, locals := 111 }
set_option maxHeartbeats 4000000 in
set_option maxRecDepth 100000 in
theorem zc_L_deal {l : Launch} {D : va_G} {C : ClassId × ClassId} {a : Nat → Nat} {o : Nat} {w : zU × (Nat → Int64)} {p0 : Int32} (hfl : l.stackTraces = false) : zk_Mw l yL_deal cL_deal 4 [(0, 9, 12, 13)] zR_L_deal 1 6 [.ref (a 0), .int (p0), .ref o] (zWo C a o w) D C (fun A => va_Qi (fun r u' => (r, u') = zw_deal w p0) (fun u' t => va_P D vwCl (zWo C a o u') t.heap) A) := by
  refine zk_mw (by decide) (Nat.le_of_ble_eq_true rfl) ?_
  intro p e s m below meth c A X Y htab hD hA
  generalize hv : zw_deal w p0 = V
  unfold zw_deal at hv
  have hcd := zcd_deal (w.1) p0
  show zJ _ _ _ _ _ _ _ _ _ _ _ _ _ _ _ _ _ 0 [(0, .ref (a 0)), (1, .int (p0)), (2, .ref o)] []
  refine zj_aload_n 1 X 2 dL_deal_0 rfl rfl ?_
  refine zj_iconst 2 X (v := 0) dL_deal_1 (by decide) rfl ?_
  refine zj_aload_n 3 X 0 dL_deal_2 rfl rfl ?_
  refine zj_iload_n 4 X 1 dL_deal_3 rfl rfl ?_
  refine zc_itc 7 (zr_Vx (As := [.int (p0)]) (rest := [.int 0, .ref o]) X (zc_X4_deal (l := l) (D := D) (C := C) (a := a) (u := w.1) (p0 := p0) (hfl := hfl)) zw_L_7 zn_X4_deal (zcR_of rfl) zO_S0 (zD_l hD) hA rfl (Nat.le_of_ble_eq_true rfl) dL_deal_4) hD hA rfl (fun h0 => ?_) (fun h0 => ?_)
  · rw [if_pos h0] at hv
    refine zj_i2l 8 X dL_deal_7 rfl rfl ?_
    refine zt_out 9 (o := o) (w := ((zf_X4_deal (w.1) p0).2.2, w.2)) X (zWo_D _ hD) dL_deal_8 rfl ?_
    refine zj_goto 15 X dL_deal_9 (by decide) ?_
    refine zj_iconst 16 X (v := 0) dL_deal_15 (by decide) rfl ?_
    exact ze_iw (Wd := zWo C a o) (by decide) (by decide) X Y hv dL_deal_16
  · rw [if_neg h0] at hv
    have hcd := hcd.resolve_left h0
    rw [hcd]
    refine zJ_catch (name := "java/lang/IllegalArgumentException") X [] ⟨0, 9, 12, 13⟩ [] (htab.trans rfl) (fun z hz => by cases hz) (by decide) (by decide) (zG_t 177 (by decide +kernel) rfl) (by decide +kernel) (fun q => ?_)
    show zJ _ _ _ _ _ _ _ _ _ _ _ _ _ _ _ _ _ 12 _ _
    refine zj_astore_n 13 X (lv1 := [(0, .ref (a 0)), (1, .int (p0)), (2, .ref o), (3, .ref q)]) [1, 2, 3, 0] dL_deal_12 (by decide) rfl rfl ?_
    refine zj_iconst 14 X (v := 1) dL_deal_13 (by decide) rfl ?_
    exact ze_iw (Wd := zWo C a o) (w := w) (by decide) (by decide) X Y hv dL_deal_14
def zw_bid (w : zU × (Nat → Int64)) (p0 : Int32) : Int32 × (zU × (Nat → Int64)) := if (zf_X4_bid (w.1) p0).1 = 0 then (0, ((zf_X4_bid (w.1) p0).2.2, vp_updL w.2 0 ((zf_X4_bid (w.1) p0).2.1.toInt64))) else (if (zf_X4_bid (w.1) p0).1 = 1 then 1 else 2, w)
set_option maxHeartbeats 2000000 in
theorem zcd_bid (u : zU) (p0 : Int32) : (zf_X4_bid u p0).1 = 0 ∨ (zf_X4_bid u p0).1 = 1 ∨ (zf_X4_bid u p0).1 = 2 := by
  simp only [zf_X4_bid]
  repeat' split
  all_goals first | (simp; done) | simp_all
abbrev zR_L_bid : Room := { frames := 7, cells := 1, slots := 6, locals := 111 }
set_option maxHeartbeats 4000000 in
set_option maxRecDepth 100000 in
theorem zc_L_bid {l : Launch} {D : va_G} {C : ClassId × ClassId} {a : Nat → Nat} {o : Nat} {w : zU × (Nat → Int64)} {p0 : Int32} (hfl : l.stackTraces = false) : zk_Mw l yL_bid cL_bid 4 [(0, 9, 12, 13), (0, 9, 15, 18)] zR_L_bid 1 6 [.ref (a 0), .int (p0), .ref o] (zWo C a o w) D C (fun A => va_Qi (fun r u' => (r, u') = zw_bid w p0) (fun u' t => va_P D vwCl (zWo C a o u') t.heap) A) := by
  refine zk_mw (by decide) (Nat.le_of_ble_eq_true rfl) ?_
  intro p e s m below meth c A X Y htab hD hA
  generalize hv : zw_bid w p0 = V
  unfold zw_bid at hv
  have hcd := zcd_bid (w.1) p0
  show zJ _ _ _ _ _ _ _ _ _ _ _ _ _ _ _ _ _ 0 [(0, .ref (a 0)), (1, .int (p0)), (2, .ref o)] []
  refine zj_aload_n 1 X 2 dL_bid_0 rfl rfl ?_
  refine zj_iconst 2 X (v := 0) dL_bid_1 (by decide) rfl ?_
  refine zj_aload_n 3 X 0 dL_bid_2 rfl rfl ?_
  refine zj_iload_n 4 X 1 dL_bid_3 rfl rfl ?_
  refine zc_itc 7 (zr_Vx (As := [.int (p0)]) (rest := [.int 0, .ref o]) X (zc_X4_bid (l := l) (D := D) (C := C) (a := a) (u := w.1) (p0 := p0) (hfl := hfl)) zw_L_15 zn_X4_bid (zcR_of rfl) zO_S0 (zD_l hD) hA rfl (Nat.le_of_ble_eq_true rfl) dL_bid_4) hD hA rfl (fun h0 => ?_) (fun h0 => ?_)
  · rw [if_pos h0] at hv
    refine zj_i2l 8 X dL_bid_7 rfl rfl ?_
    refine zt_out 9 (o := o) (w := ((zf_X4_bid (w.1) p0).2.2, w.2)) X (zWo_D _ hD) dL_bid_8 rfl ?_
    refine zj_goto 18 X dL_bid_9 (by decide) ?_
    refine zj_iconst 19 X (v := 0) dL_bid_18 (by decide) rfl ?_
    exact ze_iw (Wd := zWo C a o) (by decide) (by decide) X Y hv dL_bid_19
  · rw [if_neg h0] at hv
    rcases hcd with hcd | hcd | hcd
    · exact absurd hcd h0
    · rw [hcd]
      rw [if_pos hcd] at hv
      refine zJ_catch (name := "java/lang/IllegalArgumentException") X [] ⟨0, 9, 12, 13⟩ [⟨0, 9, 15, 18⟩] (htab.trans rfl) (fun z hz => by cases hz) (by decide) (by decide) (zG_t 177 (by decide +kernel) rfl) (by decide +kernel) (fun q => ?_)
      show zJ _ _ _ _ _ _ _ _ _ _ _ _ _ _ _ _ _ 12 _ _
      refine zj_astore_n 13 X (lv1 := [(0, .ref (a 0)), (1, .int (p0)), (2, .ref o), (3, .ref q)]) [1, 2, 3, 0] dL_bid_12 (by decide) rfl rfl ?_
      refine zj_iconst 14 X (v := 1) dL_bid_13 (by decide) rfl ?_
      exact ze_iw (Wd := zWo C a o) (w := w) (by decide) (by decide) X Y hv dL_bid_14
    · rw [hcd]
      rw [if_neg (by rw [hcd]; decide)] at hv
      refine zJ_catch (name := "java/lang/IllegalStateException") X [⟨0, 9, 12, 13⟩] ⟨0, 9, 15, 18⟩ [] (htab.trans rfl) (List.forall_mem_cons.mpr ⟨Or.inr ⟨by decide, "java/lang/IllegalArgumentException", zG_t 177 (by decide +kernel) rfl, by decide +kernel⟩, fun z hz => by cases hz⟩) (by decide) (by decide) (zG_t 253 (by decide +kernel) rfl) (by decide +kernel) (fun q => ?_)
      show zJ _ _ _ _ _ _ _ _ _ _ _ _ _ _ _ _ _ 15 _ _
      refine zj_astore_n 16 X (lv1 := [(0, .ref (a 0)), (1, .int (p0)), (2, .ref o), (3, .ref q)]) [1, 2, 3, 0] dL_bid_15 (by decide) rfl rfl ?_
      refine zj_iconst 17 X (v := 2) dL_bid_16 (by decide) rfl ?_
      exact ze_iw (Wd := zWo C a o) (w := w) (by decide) (by decide) X Y hv dL_bid_17
def zw_hold (w : zU × (Nat → Int64)) : Int32 × (zU × (Nat → Int64)) := if (zf_X4_hold (w.1)).1 = 0 then (0, ((zf_X4_hold (w.1)).2.2, vp_updL w.2 0 ((zf_X4_hold (w.1)).2.1.toInt64))) else (1, w)
set_option maxHeartbeats 2000000 in
theorem zcd_hold (u : zU) : (zf_X4_hold u).1 = 0 ∨ (zf_X4_hold u).1 = 2 := by
  simp only [zf_X4_hold]
  repeat' split
  all_goals first | (simp; done) | simp_all
abbrev zR_L_hold : Room := { frames := 7, cells := 1, slots := 6, locals := 110 }
set_option maxHeartbeats 4000000 in
set_option maxRecDepth 100000 in
theorem zc_L_hold {l : Launch} {D : va_G} {C : ClassId × ClassId} {a : Nat → Nat} {o : Nat} {w : zU × (Nat → Int64)} (hfl : l.stackTraces = false) : zk_Mw l yL_hold cL_hold 3 [(0, 8, 11, 18)] zR_L_hold 1 6 [.ref (a 0), .ref o] (zWo C a o w) D C (fun A => va_Qi (fun r u' => (r, u') = zw_hold w) (fun u' t => va_P D vwCl (zWo C a o u') t.heap) A) := by
  refine zk_mw (by decide) (Nat.le_of_ble_eq_true rfl) ?_
  intro p e s m below meth c A X Y htab hD hA
  generalize hv : zw_hold w = V
  unfold zw_hold at hv
  have hcd := zcd_hold (w.1)
  show zJ _ _ _ _ _ _ _ _ _ _ _ _ _ _ _ _ _ 0 [(0, .ref (a 0)), (1, .ref o)] []
  refine zj_aload_n 1 X 1 dL_hold_0 rfl rfl ?_
  refine zj_iconst 2 X (v := 0) dL_hold_1 (by decide) rfl ?_
  refine zj_aload_n 3 X 0 dL_hold_2 rfl rfl ?_
  refine zc_itc 6 (zr_Vx (As := []) (rest := [.int 0, .ref o]) X (zc_X4_hold (l := l) (D := D) (C := C) (a := a) (u := w.1) (hfl := hfl)) zw_L_20 zn_X4_hold (zcR_of rfl) zO_S0 (zD_l hD) hA rfl (Nat.le_of_ble_eq_true rfl) dL_hold_3) hD hA rfl (fun h0 => ?_) (fun h0 => ?_)
  · rw [if_pos h0] at hv
    refine zj_i2l 7 X dL_hold_6 rfl rfl ?_
    refine zt_out 8 (o := o) (w := ((zf_X4_hold (w.1)).2.2, w.2)) X (zWo_D _ hD) dL_hold_7 rfl ?_
    refine zj_goto 14 X dL_hold_8 (by decide) ?_
    refine zj_iconst 15 X (v := 0) dL_hold_14 (by decide) rfl ?_
    exact ze_iw (Wd := zWo C a o) (by decide) (by decide) X Y hv dL_hold_15
  · rw [if_neg h0] at hv
    have hcd := hcd.resolve_left h0
    rw [hcd]
    refine zJ_catch (name := "java/lang/IllegalStateException") X [] ⟨0, 8, 11, 18⟩ [] (htab.trans rfl) (fun z hz => by cases hz) (by decide) (by decide) (zG_t 253 (by decide +kernel) rfl) (by decide +kernel) (fun q => ?_)
    show zJ _ _ _ _ _ _ _ _ _ _ _ _ _ _ _ _ _ 11 _ _
    refine zj_astore_n 12 X (lv1 := [(0, .ref (a 0)), (1, .ref o), (2, .ref q)]) [1, 2, 0] dL_hold_11 (by decide) rfl rfl ?_
    refine zj_iconst 13 X (v := 1) dL_hold_12 (by decide) rfl ?_
    exact ze_iw (Wd := zWo C a o) (w := w) (by decide) (by decide) X Y hv dL_hold_13
def zw_pass (w : zU × (Nat → Int64)) : Int32 × (zU × (Nat → Int64)) := if (zf_X4_pass (w.1)).1 = 0 then (0, ((zf_X4_pass (w.1)).2.2, vp_updL w.2 0 ((zf_X4_pass (w.1)).2.1.toInt64))) else (1, w)
set_option maxHeartbeats 2000000 in
theorem zcd_pass (u : zU) : (zf_X4_pass u).1 = 0 ∨ (zf_X4_pass u).1 = 2 := by
  simp only [zf_X4_pass]
  repeat' split
  all_goals first | (simp; done) | simp_all
abbrev zR_L_pass : Room := { frames := 7, cells := 1, slots := 6, locals := 110 }
set_option maxHeartbeats 4000000 in
set_option maxRecDepth 100000 in
theorem zc_L_pass {l : Launch} {D : va_G} {C : ClassId × ClassId} {a : Nat → Nat} {o : Nat} {w : zU × (Nat → Int64)} (hfl : l.stackTraces = false) : zk_Mw l yL_pass cL_pass 3 [(0, 8, 11, 18)] zR_L_pass 1 6 [.ref (a 0), .ref o] (zWo C a o w) D C (fun A => va_Qi (fun r u' => (r, u') = zw_pass w) (fun u' t => va_P D vwCl (zWo C a o u') t.heap) A) := by
  refine zk_mw (by decide) (Nat.le_of_ble_eq_true rfl) ?_
  intro p e s m below meth c A X Y htab hD hA
  generalize hv : zw_pass w = V
  unfold zw_pass at hv
  have hcd := zcd_pass (w.1)
  show zJ _ _ _ _ _ _ _ _ _ _ _ _ _ _ _ _ _ 0 [(0, .ref (a 0)), (1, .ref o)] []
  refine zj_aload_n 1 X 1 dL_pass_0 rfl rfl ?_
  refine zj_iconst 2 X (v := 0) dL_pass_1 (by decide) rfl ?_
  refine zj_aload_n 3 X 0 dL_pass_2 rfl rfl ?_
  refine zc_itc 6 (zr_Vx (As := []) (rest := [.int 0, .ref o]) X (zc_X4_pass (l := l) (D := D) (C := C) (a := a) (u := w.1) (hfl := hfl)) zw_L_24 zn_X4_pass (zcR_of rfl) zO_S0 (zD_l hD) hA rfl (Nat.le_of_ble_eq_true rfl) dL_pass_3) hD hA rfl (fun h0 => ?_) (fun h0 => ?_)
  · rw [if_pos h0] at hv
    refine zj_i2l 7 X dL_pass_6 rfl rfl ?_
    refine zt_out 8 (o := o) (w := ((zf_X4_pass (w.1)).2.2, w.2)) X (zWo_D _ hD) dL_pass_7 rfl ?_
    refine zj_goto 14 X dL_pass_8 (by decide) ?_
    refine zj_iconst 15 X (v := 0) dL_pass_14 (by decide) rfl ?_
    exact ze_iw (Wd := zWo C a o) (by decide) (by decide) X Y hv dL_pass_15
  · rw [if_neg h0] at hv
    have hcd := hcd.resolve_left h0
    rw [hcd]
    refine zJ_catch (name := "java/lang/IllegalStateException") X [] ⟨0, 8, 11, 18⟩ [] (htab.trans rfl) (fun z hz => by cases hz) (by decide) (by decide) (zG_t 253 (by decide +kernel) rfl) (by decide +kernel) (fun q => ?_)
    show zJ _ _ _ _ _ _ _ _ _ _ _ _ _ _ _ _ _ 11 _ _
    refine zj_astore_n 12 X (lv1 := [(0, .ref (a 0)), (1, .ref o), (2, .ref q)]) [1, 2, 0] dL_pass_11 (by decide) rfl rfl ?_
    refine zj_iconst 13 X (v := 1) dL_pass_12 (by decide) rfl ?_
    exact ze_iw (Wd := zWo C a o) (w := w) (by decide) (by decide) X Y hv dL_pass_13
def zw_nextBid (w : zU × (Nat → Int64)) (p0 : Int32) : Int32 × (zU × (Nat → Int64)) := if (zf_X4_nextBid (w.1) p0).1 = 0 then (0, ((zf_X4_nextBid (w.1) p0).2.2, vp_updL w.2 0 ((zf_X4_nextBid (w.1) p0).2.1.toInt64))) else (1, w)
set_option maxHeartbeats 2000000 in
theorem zcd_nextBid (u : zU) (p0 : Int32) : (zf_X4_nextBid u p0).1 = 0 ∨ (zf_X4_nextBid u p0).1 = 1 := by
  simp only [zf_X4_nextBid]
  repeat' split
  all_goals first | (simp; done) | simp_all
abbrev zR_L_nextBid : Room := { frames := 7, cells := 1, slots := 6, locals := 111 }
set_option maxHeartbeats 4000000 in
set_option maxRecDepth 100000 in
theorem zc_L_nextBid {l : Launch} {D : va_G} {C : ClassId × ClassId} {a : Nat → Nat} {o : Nat} {w : zU × (Nat → Int64)} {p0 : Int32} (hfl : l.stackTraces = false) : zk_Mw l yL_nextBid cL_nextBid 4 [(0, 9, 12, 13)] zR_L_nextBid 1 6 [.ref (a 0), .int (p0), .ref o] (zWo C a o w) D C (fun A => va_Qi (fun r u' => (r, u') = zw_nextBid w p0) (fun u' t => va_P D vwCl (zWo C a o u') t.heap) A) := by
  refine zk_mw (by decide) (Nat.le_of_ble_eq_true rfl) ?_
  intro p e s m below meth c A X Y htab hD hA
  generalize hv : zw_nextBid w p0 = V
  unfold zw_nextBid at hv
  have hcd := zcd_nextBid (w.1) p0
  show zJ _ _ _ _ _ _ _ _ _ _ _ _ _ _ _ _ _ 0 [(0, .ref (a 0)), (1, .int (p0)), (2, .ref o)] []
  refine zj_aload_n 1 X 2 dL_nextBid_0 rfl rfl ?_
  refine zj_iconst 2 X (v := 0) dL_nextBid_1 (by decide) rfl ?_
  refine zj_aload_n 3 X 0 dL_nextBid_2 rfl rfl ?_
  refine zj_iload_n 4 X 1 dL_nextBid_3 rfl rfl ?_
  refine zc_itc 7 (zr_Vx (As := [.int (p0)]) (rest := [.int 0, .ref o]) X (zc_X4_nextBid (l := l) (D := D) (C := C) (a := a) (u := w.1) (p0 := p0) (hfl := hfl)) zw_L_27 zn_X4_nextBid (zcR_of rfl) zO_S0 (zD_l hD) hA rfl (Nat.le_of_ble_eq_true rfl) dL_nextBid_4) hD hA rfl (fun h0 => ?_) (fun h0 => ?_)
  · rw [if_pos h0] at hv
    refine zj_i2l 8 X dL_nextBid_7 rfl rfl ?_
    refine zt_out 9 (o := o) (w := ((zf_X4_nextBid (w.1) p0).2.2, w.2)) X (zWo_D _ hD) dL_nextBid_8 rfl ?_
    refine zj_goto 15 X dL_nextBid_9 (by decide) ?_
    refine zj_iconst 16 X (v := 0) dL_nextBid_15 (by decide) rfl ?_
    exact ze_iw (Wd := zWo C a o) (by decide) (by decide) X Y hv dL_nextBid_16
  · rw [if_neg h0] at hv
    have hcd := hcd.resolve_left h0
    rw [hcd]
    refine zJ_catch (name := "java/lang/IllegalArgumentException") X [] ⟨0, 9, 12, 13⟩ [] (htab.trans rfl) (fun z hz => by cases hz) (by decide) (by decide) (zG_t 177 (by decide +kernel) rfl) (by decide +kernel) (fun q => ?_)
    show zJ _ _ _ _ _ _ _ _ _ _ _ _ _ _ _ _ _ 12 _ _
    refine zj_astore_n 13 X (lv1 := [(0, .ref (a 0)), (1, .int (p0)), (2, .ref o), (3, .ref q)]) [1, 2, 3, 0] dL_nextBid_12 (by decide) rfl rfl ?_
    refine zj_iconst 14 X (v := 1) dL_nextBid_13 (by decide) rfl ?_
    exact ze_iw (Wd := zWo C a o) (w := w) (by decide) (by decide) X Y hv dL_nextBid_14
def zw_takeSkat (w : zU × (Nat → Int64)) : Int32 × (zU × (Nat → Int64)) := if (zf_X4_takeSkat (w.1)).1 = 0 then (0, ((zf_X4_takeSkat (w.1)).2.2, vp_updL w.2 0 ((zf_X4_takeSkat (w.1)).2.1))) else (1, w)
set_option maxHeartbeats 2000000 in
theorem zcd_takeSkat (u : zU) : (zf_X4_takeSkat u).1 = 0 ∨ (zf_X4_takeSkat u).1 = 2 := by
  simp only [zf_X4_takeSkat]
  repeat' split
  all_goals first | (simp; done) | simp_all
abbrev zR_L_takeSkat : Room := { frames := 7, cells := 1, slots := 6, locals := 112 }
set_option maxHeartbeats 4000000 in
set_option maxRecDepth 100000 in
theorem zc_L_takeSkat {l : Launch} {D : va_G} {C : ClassId × ClassId} {a : Nat → Nat} {o : Nat} {w : zU × (Nat → Int64)} (hfl : l.stackTraces = false) : zk_Mw l yL_takeSkat cL_takeSkat 3 [(0, 7, 10, 18)] zR_L_takeSkat 1 6 [.ref (a 0), .ref o] (zWo C a o w) D C (fun A => va_Qi (fun r u' => (r, u') = zw_takeSkat w) (fun u' t => va_P D vwCl (zWo C a o u') t.heap) A) := by
  refine zk_mw (by decide) (Nat.le_of_ble_eq_true rfl) ?_
  intro p e s m below meth c A X Y htab hD hA
  generalize hv : zw_takeSkat w = V
  unfold zw_takeSkat at hv
  have hcd := zcd_takeSkat (w.1)
  show zJ _ _ _ _ _ _ _ _ _ _ _ _ _ _ _ _ _ 0 [(0, .ref (a 0)), (1, .ref o)] []
  refine zj_aload_n 1 X 1 dL_takeSkat_0 rfl rfl ?_
  refine zj_iconst 2 X (v := 0) dL_takeSkat_1 (by decide) rfl ?_
  refine zj_aload_n 3 X 0 dL_takeSkat_2 rfl rfl ?_
  refine zc_ltc 6 (zr_Vx (As := []) (rest := [.int 0, .ref o]) X (zc_X4_takeSkat (l := l) (D := D) (C := C) (a := a) (u := w.1) (hfl := hfl)) zw_L_30 zn_X4_takeSkat (zcR_of rfl) zO_S0 (zD_l hD) hA rfl (Nat.le_of_ble_eq_true rfl) dL_takeSkat_3) hD hA rfl (fun h0 => ?_) (fun h0 => ?_)
  · rw [if_pos h0] at hv
    refine zt_out 7 (o := o) (w := ((zf_X4_takeSkat (w.1)).2.2, w.2)) X (zWo_D _ hD) dL_takeSkat_6 rfl ?_
    refine zj_goto 13 X dL_takeSkat_7 (by decide) ?_
    refine zj_iconst 14 X (v := 0) dL_takeSkat_13 (by decide) rfl ?_
    exact ze_iw (Wd := zWo C a o) (by decide) (by decide) X Y hv dL_takeSkat_14
  · rw [if_neg h0] at hv
    have hcd := hcd.resolve_left h0
    rw [hcd]
    refine zJ_catch (name := "java/lang/IllegalStateException") X [] ⟨0, 7, 10, 18⟩ [] (htab.trans rfl) (fun z hz => by cases hz) (by decide) (by decide) (zG_t 253 (by decide +kernel) rfl) (by decide +kernel) (fun q => ?_)
    show zJ _ _ _ _ _ _ _ _ _ _ _ _ _ _ _ _ _ 10 _ _
    refine zj_astore_n 11 X (lv1 := [(0, .ref (a 0)), (1, .ref o), (2, .ref q)]) [1, 2, 0] dL_takeSkat_10 (by decide) rfl rfl ?_
    refine zj_iconst 12 X (v := 1) dL_takeSkat_11 (by decide) rfl ?_
    exact ze_iw (Wd := zWo C a o) (w := w) (by decide) (by decide) X Y hv dL_takeSkat_12
def zw_putAway (w : zU × (Nat → Int64)) (p0 : Int32) (p1 : Int32) : Int32 × (zU × (Nat → Int64)) := if (zf_X4_putAway (w.1) p0 p1).1 = 0 then (0, ((zf_X4_putAway (w.1) p0 p1).2.2, vp_updL w.2 0 ((zf_X4_putAway (w.1) p0 p1).2.1.toInt64))) else (if (zf_X4_putAway (w.1) p0 p1).1 = 3 then 1 else if (zf_X4_putAway (w.1) p0 p1).1 = 1 then 2 else 3, w)
set_option maxHeartbeats 2000000 in
theorem zcd_putAway (u : zU) (p0 : Int32) (p1 : Int32) : (zf_X4_putAway u p0 p1).1 = 0 ∨ (zf_X4_putAway u p0 p1).1 = 3 ∨ (zf_X4_putAway u p0 p1).1 = 1 ∨ (zf_X4_putAway u p0 p1).1 = 2 := by
  simp only [zf_X4_putAway]
  repeat' split
  all_goals first | (simp; done) | simp_all
abbrev zR_L_putAway : Room := { frames := 7, cells := 1, slots := 6, locals := 114 }
set_option maxHeartbeats 4000000 in
set_option maxRecDepth 100000 in
theorem zc_L_putAway {l : Launch} {D : va_G} {C : ClassId × ClassId} {a : Nat → Nat} {o : Nat} {w : zU × (Nat → Int64)} {p0 : Int32} {p1 : Int32} (hfl : l.stackTraces = false) : zk_Mw l yL_putAway cL_putAway 5 [(0, 10, 13, 38), (0, 10, 17, 13), (0, 10, 21, 18)] zR_L_putAway 1 6 [.ref (a 0), .int (p0), .int (p1), .ref o] (zWo C a o w) D C (fun A => va_Qi (fun r u' => (r, u') = zw_putAway w p0 p1) (fun u' t => va_P D vwCl (zWo C a o u') t.heap) A) := by
  refine zk_mw (by decide) (Nat.le_of_ble_eq_true rfl) ?_
  intro p e s m below meth c A X Y htab hD hA
  generalize hv : zw_putAway w p0 p1 = V
  unfold zw_putAway at hv
  have hcd := zcd_putAway (w.1) p0 p1
  show zJ _ _ _ _ _ _ _ _ _ _ _ _ _ _ _ _ _ 0 [(0, .ref (a 0)), (1, .int (p0)), (2, .int (p1)), (3, .ref o)] []
  refine zj_aload_n 1 X 3 dL_putAway_0 rfl rfl ?_
  refine zj_iconst 2 X (v := 0) dL_putAway_1 (by decide) rfl ?_
  refine zj_aload_n 3 X 0 dL_putAway_2 rfl rfl ?_
  refine zj_iload_n 4 X 1 dL_putAway_3 rfl rfl ?_
  refine zj_iload_n 5 X 2 dL_putAway_4 rfl rfl ?_
  refine zc_itc 8 (zr_Vx (As := [.int (p0), .int (p1)]) (rest := [.int 0, .ref o]) X (zc_X4_putAway (l := l) (D := D) (C := C) (a := a) (u := w.1) (p0 := p0) (p1 := p1) (hfl := hfl)) zw_L_34 zn_X4_putAway (zcR_of rfl) zO_S0 (zD_l hD) hA rfl (Nat.le_of_ble_eq_true rfl) dL_putAway_5) hD hA rfl (fun h0 => ?_) (fun h0 => ?_)
  · rw [if_pos h0] at hv
    refine zj_i2l 9 X dL_putAway_8 rfl rfl ?_
    refine zt_out 10 (o := o) (w := ((zf_X4_putAway (w.1) p0 p1).2.2, w.2)) X (zWo_D _ hD) dL_putAway_9 rfl ?_
    refine zj_goto 25 X dL_putAway_10 (by decide) ?_
    refine zj_iconst 26 X (v := 0) dL_putAway_25 (by decide) rfl ?_
    exact ze_iw (Wd := zWo C a o) (by decide) (by decide) X Y hv dL_putAway_26
  · rw [if_neg h0] at hv
    rcases hcd with hcd | hcd | hcd | hcd
    · exact absurd hcd h0
    · rw [hcd]
      rw [if_pos hcd] at hv
      refine zJ_catch (name := "java/lang/IndexOutOfBoundsException") X [] ⟨0, 10, 13, 38⟩ [⟨0, 10, 17, 13⟩, ⟨0, 10, 21, 18⟩] (htab.trans rfl) (fun z hz => by cases hz) (by decide) (by decide) (zG_t 335 (by decide +kernel) rfl) (by decide +kernel) (fun q => ?_)
      show zJ _ _ _ _ _ _ _ _ _ _ _ _ _ _ _ _ _ 13 _ _
      refine zj_astore 15 X (lv1 := [(0, .ref (a 0)), (1, .int (p0)), (2, .int (p1)), (3, .ref o), (4, .ref q)]) [1, 2, 3, 4, 0] dL_putAway_13 (by decide) rfl rfl ?_
      refine zj_iconst 16 X (v := 1) dL_putAway_15 (by decide) rfl ?_
      exact ze_iw (Wd := zWo C a o) (w := w) (by decide) (by decide) X Y hv dL_putAway_16
    · rw [hcd]
      rw [if_neg (by rw [hcd]; decide)] at hv
      rw [if_pos hcd] at hv
      refine zJ_catch (name := "java/lang/IllegalArgumentException") X [⟨0, 10, 13, 38⟩] ⟨0, 10, 17, 13⟩ [⟨0, 10, 21, 18⟩] (htab.trans rfl) (List.forall_mem_cons.mpr ⟨Or.inr ⟨by decide, "java/lang/IndexOutOfBoundsException", zG_t 335 (by decide +kernel) rfl, by decide +kernel⟩, fun z hz => by cases hz⟩) (by decide) (by decide) (zG_t 177 (by decide +kernel) rfl) (by decide +kernel) (fun q => ?_)
      show zJ _ _ _ _ _ _ _ _ _ _ _ _ _ _ _ _ _ 17 _ _
      refine zj_astore 19 X (lv1 := [(0, .ref (a 0)), (1, .int (p0)), (2, .int (p1)), (3, .ref o), (4, .ref q)]) [1, 2, 3, 4, 0] dL_putAway_17 (by decide) rfl rfl ?_
      refine zj_iconst 20 X (v := 2) dL_putAway_19 (by decide) rfl ?_
      exact ze_iw (Wd := zWo C a o) (w := w) (by decide) (by decide) X Y hv dL_putAway_20
    · rw [hcd]
      rw [if_neg (by rw [hcd]; decide)] at hv
      rw [if_neg (by rw [hcd]; decide)] at hv
      refine zJ_catch (name := "java/lang/IllegalStateException") X [⟨0, 10, 13, 38⟩, ⟨0, 10, 17, 13⟩] ⟨0, 10, 21, 18⟩ [] (htab.trans rfl) (List.forall_mem_cons.mpr ⟨Or.inr ⟨by decide, "java/lang/IndexOutOfBoundsException", zG_t 335 (by decide +kernel) rfl, by decide +kernel⟩, List.forall_mem_cons.mpr ⟨Or.inr ⟨by decide, "java/lang/IllegalArgumentException", zG_t 177 (by decide +kernel) rfl, by decide +kernel⟩, fun z hz => by cases hz⟩⟩) (by decide) (by decide) (zG_t 253 (by decide +kernel) rfl) (by decide +kernel) (fun q => ?_)
      show zJ _ _ _ _ _ _ _ _ _ _ _ _ _ _ _ _ _ 21 _ _
      refine zj_astore 23 X (lv1 := [(0, .ref (a 0)), (1, .int (p0)), (2, .int (p1)), (3, .ref o), (4, .ref q)]) [1, 2, 3, 4, 0] dL_putAway_21 (by decide) rfl rfl ?_
      refine zj_iconst 24 X (v := 3) dL_putAway_23 (by decide) rfl ?_
      exact ze_iw (Wd := zWo C a o) (w := w) (by decide) (by decide) X Y hv dL_putAway_24
def zw_announce (w : zU × (Nat → Int64)) (p0 : Int32) (p1 : Int32) : Int32 × (zU × (Nat → Int64)) := if (zf_X4_announce (w.1) p0 p1).1 = 0 then (0, ((zf_X4_announce (w.1) p0 p1).2.2, vp_updL w.2 0 ((zf_X4_announce (w.1) p0 p1).2.1.toInt64))) else (if (zf_X4_announce (w.1) p0 p1).1 = 1 then 1 else 2, w)
set_option maxHeartbeats 2000000 in
theorem zcd_announce (u : zU) (p0 : Int32) (p1 : Int32) : (zf_X4_announce u p0 p1).1 = 0 ∨ (zf_X4_announce u p0 p1).1 = 1 ∨ (zf_X4_announce u p0 p1).1 = 2 := by
  simp only [zf_X4_announce]
  repeat' split
  all_goals first | (simp; done) | simp_all
abbrev zR_L_announce : Room := { frames := 7, cells := 1, slots := 6, locals := 113 }
set_option maxHeartbeats 4000000 in
set_option maxRecDepth 100000 in
theorem zc_L_announce {l : Launch} {D : va_G} {C : ClassId × ClassId} {a : Nat → Nat} {o : Nat} {w : zU × (Nat → Int64)} {p0 : Int32} {p1 : Int32} (hfl : l.stackTraces = false) : zk_Mw l yL_announce cL_announce 5 [(0, 10, 13, 13), (0, 10, 17, 18)] zR_L_announce 1 6 [.ref (a 0), .int (p0), .int (p1), .ref o] (zWo C a o w) D C (fun A => va_Qi (fun r u' => (r, u') = zw_announce w p0 p1) (fun u' t => va_P D vwCl (zWo C a o u') t.heap) A) := by
  refine zk_mw (by decide) (Nat.le_of_ble_eq_true rfl) ?_
  intro p e s m below meth c A X Y htab hD hA
  generalize hv : zw_announce w p0 p1 = V
  unfold zw_announce at hv
  have hcd := zcd_announce (w.1) p0 p1
  show zJ _ _ _ _ _ _ _ _ _ _ _ _ _ _ _ _ _ 0 [(0, .ref (a 0)), (1, .int (p0)), (2, .int (p1)), (3, .ref o)] []
  refine zj_aload_n 1 X 3 dL_announce_0 rfl rfl ?_
  refine zj_iconst 2 X (v := 0) dL_announce_1 (by decide) rfl ?_
  refine zj_aload_n 3 X 0 dL_announce_2 rfl rfl ?_
  refine zj_iload_n 4 X 1 dL_announce_3 rfl rfl ?_
  refine zj_iload_n 5 X 2 dL_announce_4 rfl rfl ?_
  refine zc_itc 8 (zr_Vx (As := [.int (p0), .int (p1)]) (rest := [.int 0, .ref o]) X (zc_X4_announce (l := l) (D := D) (C := C) (a := a) (u := w.1) (p0 := p0) (p1 := p1) (hfl := hfl)) zw_L_40 zn_X4_announce (zcR_of rfl) zO_S0 (zD_l hD) hA rfl (Nat.le_of_ble_eq_true rfl) dL_announce_5) hD hA rfl (fun h0 => ?_) (fun h0 => ?_)
  · rw [if_pos h0] at hv
    refine zj_i2l 9 X dL_announce_8 rfl rfl ?_
    refine zt_out 10 (o := o) (w := ((zf_X4_announce (w.1) p0 p1).2.2, w.2)) X (zWo_D _ hD) dL_announce_9 rfl ?_
    refine zj_goto 21 X dL_announce_10 (by decide) ?_
    refine zj_iconst 22 X (v := 0) dL_announce_21 (by decide) rfl ?_
    exact ze_iw (Wd := zWo C a o) (by decide) (by decide) X Y hv dL_announce_22
  · rw [if_neg h0] at hv
    rcases hcd with hcd | hcd | hcd
    · exact absurd hcd h0
    · rw [hcd]
      rw [if_pos hcd] at hv
      refine zJ_catch (name := "java/lang/IllegalArgumentException") X [] ⟨0, 10, 13, 13⟩ [⟨0, 10, 17, 18⟩] (htab.trans rfl) (fun z hz => by cases hz) (by decide) (by decide) (zG_t 177 (by decide +kernel) rfl) (by decide +kernel) (fun q => ?_)
      show zJ _ _ _ _ _ _ _ _ _ _ _ _ _ _ _ _ _ 13 _ _
      refine zj_astore 15 X (lv1 := [(0, .ref (a 0)), (1, .int (p0)), (2, .int (p1)), (3, .ref o), (4, .ref q)]) [1, 2, 3, 4, 0] dL_announce_13 (by decide) rfl rfl ?_
      refine zj_iconst 16 X (v := 1) dL_announce_15 (by decide) rfl ?_
      exact ze_iw (Wd := zWo C a o) (w := w) (by decide) (by decide) X Y hv dL_announce_16
    · rw [hcd]
      rw [if_neg (by rw [hcd]; decide)] at hv
      refine zJ_catch (name := "java/lang/IllegalStateException") X [⟨0, 10, 13, 13⟩] ⟨0, 10, 17, 18⟩ [] (htab.trans rfl) (List.forall_mem_cons.mpr ⟨Or.inr ⟨by decide, "java/lang/IllegalArgumentException", zG_t 177 (by decide +kernel) rfl, by decide +kernel⟩, fun z hz => by cases hz⟩) (by decide) (by decide) (zG_t 253 (by decide +kernel) rfl) (by decide +kernel) (fun q => ?_)
      show zJ _ _ _ _ _ _ _ _ _ _ _ _ _ _ _ _ _ 17 _ _
      refine zj_astore 19 X (lv1 := [(0, .ref (a 0)), (1, .int (p0)), (2, .int (p1)), (3, .ref o), (4, .ref q)]) [1, 2, 3, 4, 0] dL_announce_17 (by decide) rfl rfl ?_
      refine zj_iconst 20 X (v := 2) dL_announce_19 (by decide) rfl ?_
      exact ze_iw (Wd := zWo C a o) (w := w) (by decide) (by decide) X Y hv dL_announce_20
def zw_matadors (w : zU × (Nat → Int64)) (p0 : Int32) (p1 : Int32) : Int32 × (zU × (Nat → Int64)) := if (zf_X4_matadors (w.1) p0 p1).1 = 0 then (0, ((zf_X4_matadors (w.1) p0 p1).2.2, vp_updL w.2 0 ((zf_X4_matadors (w.1) p0 p1).2.1.toInt64))) else (if (zf_X4_matadors (w.1) p0 p1).1 = 3 then 1 else 2, w)
set_option maxHeartbeats 2000000 in
theorem zcd_matadors (u : zU) (p0 : Int32) (p1 : Int32) : (zf_X4_matadors u p0 p1).1 = 0 ∨ (zf_X4_matadors u p0 p1).1 = 3 ∨ (zf_X4_matadors u p0 p1).1 = 1 := by
  simp only [zf_X4_matadors, zf_X4_refuseNoPlayer]
  repeat' split
  all_goals first | (simp; done) | simp_all
abbrev zR_L_matadors : Room := { frames := 8, cells := 2, slots := 12, locals := 132 }
set_option maxHeartbeats 4000000 in
set_option maxRecDepth 100000 in
theorem zc_L_matadors {l : Launch} {D : va_G} {C : ClassId × ClassId} {a : Nat → Nat} {o : Nat} {w : zU × (Nat → Int64)} {p0 : Int32} {p1 : Int32} (hfl : l.stackTraces = false) : zk_Mw l yL_matadors cL_matadors 5 [(0, 10, 13, 38), (0, 10, 17, 13)] zR_L_matadors 2 12 [.ref (a 0), .int (p0), .int (p1), .ref o] (zWo C a o w) D C (fun A => va_Qi (fun r u' => (r, u') = zw_matadors w p0 p1) (fun u' t => va_P D vwCl (zWo C a o u') t.heap) A) := by
  refine zk_mw (by decide) (Nat.le_of_ble_eq_true rfl) ?_
  intro p e s m below meth c A X Y htab hD hA
  generalize hv : zw_matadors w p0 p1 = V
  unfold zw_matadors at hv
  have hcd := zcd_matadors (w.1) p0 p1
  show zJ _ _ _ _ _ _ _ _ _ _ _ _ _ _ _ _ _ 0 [(0, .ref (a 0)), (1, .int (p0)), (2, .int (p1)), (3, .ref o)] []
  refine zj_aload_n 1 X 3 dL_matadors_0 rfl rfl ?_
  refine zj_iconst 2 X (v := 0) dL_matadors_1 (by decide) rfl ?_
  refine zj_aload_n 3 X 0 dL_matadors_2 rfl rfl ?_
  refine zj_iload_n 4 X 1 dL_matadors_3 rfl rfl ?_
  refine zj_iload_n 5 X 2 dL_matadors_4 rfl rfl ?_
  refine zc_itc 8 (zr_Vx (As := [.int (p0), .int (p1)]) (rest := [.int 0, .ref o]) X (zc_X4_matadors (l := l) (D := D) (C := C) (a := a) (u := w.1) (p0 := p0) (p1 := p1) (hfl := hfl)) zw_L_43 zn_X4_matadors (zcR_of rfl) zO_S0 (zD_l hD) hA rfl (Nat.le_of_ble_eq_true rfl) dL_matadors_5) hD hA rfl (fun h0 => ?_) (fun h0 => ?_)
  · rw [if_pos h0] at hv
    refine zj_i2l 9 X dL_matadors_8 rfl rfl ?_
    refine zt_out 10 (o := o) (w := ((zf_X4_matadors (w.1) p0 p1).2.2, w.2)) X (zWo_D _ hD) dL_matadors_9 rfl ?_
    refine zj_goto 21 X dL_matadors_10 (by decide) ?_
    refine zj_iconst 22 X (v := 0) dL_matadors_21 (by decide) rfl ?_
    exact ze_iw (Wd := zWo C a o) (by decide) (by decide) X Y hv dL_matadors_22
  · rw [if_neg h0] at hv
    rcases hcd with hcd | hcd | hcd
    · exact absurd hcd h0
    · rw [hcd]
      rw [if_pos hcd] at hv
      refine zJ_catch (name := "java/lang/IndexOutOfBoundsException") X [] ⟨0, 10, 13, 38⟩ [⟨0, 10, 17, 13⟩] (htab.trans rfl) (fun z hz => by cases hz) (by decide) (by decide) (zG_t 335 (by decide +kernel) rfl) (by decide +kernel) (fun q => ?_)
      show zJ _ _ _ _ _ _ _ _ _ _ _ _ _ _ _ _ _ 13 _ _
      refine zj_astore 15 X (lv1 := [(0, .ref (a 0)), (1, .int (p0)), (2, .int (p1)), (3, .ref o), (4, .ref q)]) [1, 2, 3, 4, 0] dL_matadors_13 (by decide) rfl rfl ?_
      refine zj_iconst 16 X (v := 1) dL_matadors_15 (by decide) rfl ?_
      exact ze_iw (Wd := zWo C a o) (w := w) (by decide) (by decide) X Y hv dL_matadors_16
    · rw [hcd]
      rw [if_neg (by rw [hcd]; decide)] at hv
      refine zJ_catch (name := "java/lang/IllegalArgumentException") X [⟨0, 10, 13, 38⟩] ⟨0, 10, 17, 13⟩ [] (htab.trans rfl) (List.forall_mem_cons.mpr ⟨Or.inr ⟨by decide, "java/lang/IndexOutOfBoundsException", zG_t 335 (by decide +kernel) rfl, by decide +kernel⟩, fun z hz => by cases hz⟩) (by decide) (by decide) (zG_t 177 (by decide +kernel) rfl) (by decide +kernel) (fun q => ?_)
      show zJ _ _ _ _ _ _ _ _ _ _ _ _ _ _ _ _ _ 17 _ _
      refine zj_astore 19 X (lv1 := [(0, .ref (a 0)), (1, .int (p0)), (2, .int (p1)), (3, .ref o), (4, .ref q)]) [1, 2, 3, 4, 0] dL_matadors_17 (by decide) rfl rfl ?_
      refine zj_iconst 20 X (v := 2) dL_matadors_19 (by decide) rfl ?_
      exact ze_iw (Wd := zWo C a o) (w := w) (by decide) (by decide) X Y hv dL_matadors_20
def zw_playable (w : zU × (Nat → Int64)) : Int32 × (zU × (Nat → Int64)) := if (zf_X4_playable (w.1)).1 = 0 then (0, ((zf_X4_playable (w.1)).2.2, vp_updL w.2 0 ((zf_X4_playable (w.1)).2.1))) else (1, w)
set_option maxHeartbeats 2000000 in
theorem zcd_playable (u : zU) : (zf_X4_playable u).1 = 0 ∨ (zf_X4_playable u).1 = 2 := by
  simp only [zf_X4_playable]
  repeat' split
  all_goals first | (simp; done) | simp_all
abbrev zR_L_playable : Room := { frames := 7, cells := 1, slots := 6, locals := 110 }
set_option maxHeartbeats 4000000 in
set_option maxRecDepth 100000 in
theorem zc_L_playable {l : Launch} {D : va_G} {C : ClassId × ClassId} {a : Nat → Nat} {o : Nat} {w : zU × (Nat → Int64)} (hfl : l.stackTraces = false) : zk_Mw l yL_playable cL_playable 3 [(0, 7, 10, 18)] zR_L_playable 1 6 [.ref (a 0), .ref o] (zWo C a o w) D C (fun A => va_Qi (fun r u' => (r, u') = zw_playable w) (fun u' t => va_P D vwCl (zWo C a o u') t.heap) A) := by
  refine zk_mw (by decide) (Nat.le_of_ble_eq_true rfl) ?_
  intro p e s m below meth c A X Y htab hD hA
  generalize hv : zw_playable w = V
  unfold zw_playable at hv
  have hcd := zcd_playable (w.1)
  show zJ _ _ _ _ _ _ _ _ _ _ _ _ _ _ _ _ _ 0 [(0, .ref (a 0)), (1, .ref o)] []
  refine zj_aload_n 1 X 1 dL_playable_0 rfl rfl ?_
  refine zj_iconst 2 X (v := 0) dL_playable_1 (by decide) rfl ?_
  refine zj_aload_n 3 X 0 dL_playable_2 rfl rfl ?_
  refine zc_ltc 6 (zr_Vx (As := []) (rest := [.int 0, .ref o]) X (zc_X4_playable (l := l) (D := D) (C := C) (a := a) (u := w.1) (hfl := hfl)) zw_L_46 zn_X4_playable (zcR_of rfl) zO_S0 (zD_l hD) hA rfl (Nat.le_of_ble_eq_true rfl) dL_playable_3) hD hA rfl (fun h0 => ?_) (fun h0 => ?_)
  · rw [if_pos h0] at hv
    refine zt_out 7 (o := o) (w := ((zf_X4_playable (w.1)).2.2, w.2)) X (zWo_D _ hD) dL_playable_6 rfl ?_
    refine zj_goto 13 X dL_playable_7 (by decide) ?_
    refine zj_iconst 14 X (v := 0) dL_playable_13 (by decide) rfl ?_
    exact ze_iw (Wd := zWo C a o) (by decide) (by decide) X Y hv dL_playable_14
  · rw [if_neg h0] at hv
    have hcd := hcd.resolve_left h0
    rw [hcd]
    refine zJ_catch (name := "java/lang/IllegalStateException") X [] ⟨0, 7, 10, 18⟩ [] (htab.trans rfl) (fun z hz => by cases hz) (by decide) (by decide) (zG_t 253 (by decide +kernel) rfl) (by decide +kernel) (fun q => ?_)
    show zJ _ _ _ _ _ _ _ _ _ _ _ _ _ _ _ _ _ 10 _ _
    refine zj_astore_n 11 X (lv1 := [(0, .ref (a 0)), (1, .ref o), (2, .ref q)]) [1, 2, 0] dL_playable_10 (by decide) rfl rfl ?_
    refine zj_iconst 12 X (v := 1) dL_playable_11 (by decide) rfl ?_
    exact ze_iw (Wd := zWo C a o) (w := w) (by decide) (by decide) X Y hv dL_playable_12
def zw_play (w : zU × (Nat → Int64)) (p0 : Int32) : Int32 × (zU × (Nat → Int64)) := if (zf_X4_play (w.1) p0).1 = 0 then (0, ((zf_X4_play (w.1) p0).2.2, vp_updL w.2 0 ((zf_X4_play (w.1) p0).2.1.toInt64))) else (if (zf_X4_play (w.1) p0).1 = 3 then 1 else 2, w)
set_option maxHeartbeats 2000000 in
theorem zcd_play (u : zU) (p0 : Int32) : (zf_X4_play u p0).1 = 0 ∨ (zf_X4_play u p0).1 = 3 ∨ (zf_X4_play u p0).1 = 2 := by
  simp only [zf_X4_play, zk_X4_play_69]
  repeat' split
  all_goals first | (simp; done) | simp_all
abbrev zR_L_play : Room := { frames := 7, cells := 1, slots := 6, locals := 153 }
set_option maxHeartbeats 4000000 in
set_option maxRecDepth 100000 in
theorem zc_L_play {l : Launch} {D : va_G} {C : ClassId × ClassId} {a : Nat → Nat} {o : Nat} {w : zU × (Nat → Int64)} {p0 : Int32} (hfl : l.stackTraces = false) : zk_Mw l yL_play cL_play 4 [(0, 9, 12, 38), (0, 9, 15, 18)] zR_L_play 1 6 [.ref (a 0), .int (p0), .ref o] (zWo C a o w) D C (fun A => va_Qi (fun r u' => (r, u') = zw_play w p0) (fun u' t => va_P D vwCl (zWo C a o u') t.heap) A) := by
  refine zk_mw (by decide) (Nat.le_of_ble_eq_true rfl) ?_
  intro p e s m below meth c A X Y htab hD hA
  generalize hv : zw_play w p0 = V
  unfold zw_play at hv
  have hcd := zcd_play (w.1) p0
  show zJ _ _ _ _ _ _ _ _ _ _ _ _ _ _ _ _ _ 0 [(0, .ref (a 0)), (1, .int (p0)), (2, .ref o)] []
  refine zj_aload_n 1 X 2 dL_play_0 rfl rfl ?_
  refine zj_iconst 2 X (v := 0) dL_play_1 (by decide) rfl ?_
  refine zj_aload_n 3 X 0 dL_play_2 rfl rfl ?_
  refine zj_iload_n 4 X 1 dL_play_3 rfl rfl ?_
  refine zc_itc 7 (zr_Vx (As := [.int (p0)]) (rest := [.int 0, .ref o]) X (zc_X4_play (l := l) (D := D) (C := C) (a := a) (u := w.1) (p0 := p0) (hfl := hfl)) zw_L_49 zn_X4_play (zcR_of rfl) zO_S0 (zD_l hD) hA rfl (Nat.le_of_ble_eq_true rfl) dL_play_4) hD hA rfl (fun h0 => ?_) (fun h0 => ?_)
  · rw [if_pos h0] at hv
    refine zj_i2l 8 X dL_play_7 rfl rfl ?_
    refine zt_out 9 (o := o) (w := ((zf_X4_play (w.1) p0).2.2, w.2)) X (zWo_D _ hD) dL_play_8 rfl ?_
    refine zj_goto 18 X dL_play_9 (by decide) ?_
    refine zj_iconst 19 X (v := 0) dL_play_18 (by decide) rfl ?_
    exact ze_iw (Wd := zWo C a o) (by decide) (by decide) X Y hv dL_play_19
  · rw [if_neg h0] at hv
    rcases hcd with hcd | hcd | hcd
    · exact absurd hcd h0
    · rw [hcd]
      rw [if_pos hcd] at hv
      refine zJ_catch (name := "java/lang/IndexOutOfBoundsException") X [] ⟨0, 9, 12, 38⟩ [⟨0, 9, 15, 18⟩] (htab.trans rfl) (fun z hz => by cases hz) (by decide) (by decide) (zG_t 335 (by decide +kernel) rfl) (by decide +kernel) (fun q => ?_)
      show zJ _ _ _ _ _ _ _ _ _ _ _ _ _ _ _ _ _ 12 _ _
      refine zj_astore_n 13 X (lv1 := [(0, .ref (a 0)), (1, .int (p0)), (2, .ref o), (3, .ref q)]) [1, 2, 3, 0] dL_play_12 (by decide) rfl rfl ?_
      refine zj_iconst 14 X (v := 1) dL_play_13 (by decide) rfl ?_
      exact ze_iw (Wd := zWo C a o) (w := w) (by decide) (by decide) X Y hv dL_play_14
    · rw [hcd]
      rw [if_neg (by rw [hcd]; decide)] at hv
      refine zJ_catch (name := "java/lang/IllegalStateException") X [⟨0, 9, 12, 38⟩] ⟨0, 9, 15, 18⟩ [] (htab.trans rfl) (List.forall_mem_cons.mpr ⟨Or.inr ⟨by decide, "java/lang/IndexOutOfBoundsException", zG_t 335 (by decide +kernel) rfl, by decide +kernel⟩, fun z hz => by cases hz⟩) (by decide) (by decide) (zG_t 253 (by decide +kernel) rfl) (by decide +kernel) (fun q => ?_)
      show zJ _ _ _ _ _ _ _ _ _ _ _ _ _ _ _ _ _ 15 _ _
      refine zj_astore_n 16 X (lv1 := [(0, .ref (a 0)), (1, .int (p0)), (2, .ref o), (3, .ref q)]) [1, 2, 3, 0] dL_play_15 (by decide) rfl rfl ?_
      refine zj_iconst 17 X (v := 2) dL_play_16 (by decide) rfl ?_
      exact ze_iw (Wd := zWo C a o) (w := w) (by decide) (by decide) X Y hv dL_play_17
def zw_hand (w : zU × (Nat → Int64)) (p0 : Int32) : Int32 × (zU × (Nat → Int64)) := if (zf_X4_hand (w.1) p0).1 = 0 then (0, ((zf_X4_hand (w.1) p0).2.2, vp_updL w.2 0 ((zf_X4_hand (w.1) p0).2.1))) else (1, w)
set_option maxHeartbeats 2000000 in
theorem zcd_hand (u : zU) (p0 : Int32) : (zf_X4_hand u p0).1 = 0 ∨ (zf_X4_hand u p0).1 = 3 := by
  simp only [zf_X4_hand, zf_X4_refuseNoPlayer]
  repeat' split
  all_goals first | (simp; done) | simp_all
abbrev zR_L_hand : Room := { frames := 8, cells := 1, slots := 6, locals := 131 }
set_option maxHeartbeats 4000000 in
set_option maxRecDepth 100000 in
theorem zc_L_hand {l : Launch} {D : va_G} {C : ClassId × ClassId} {a : Nat → Nat} {o : Nat} {w : zU × (Nat → Int64)} {p0 : Int32} (hfl : l.stackTraces = false) : zk_Mw l yL_hand cL_hand 4 [(0, 8, 11, 38)] zR_L_hand 1 6 [.ref (a 0), .int (p0), .ref o] (zWo C a o w) D C (fun A => va_Qi (fun r u' => (r, u') = zw_hand w p0) (fun u' t => va_P D vwCl (zWo C a o u') t.heap) A) := by
  refine zk_mw (by decide) (Nat.le_of_ble_eq_true rfl) ?_
  intro p e s m below meth c A X Y htab hD hA
  generalize hv : zw_hand w p0 = V
  unfold zw_hand at hv
  have hcd := zcd_hand (w.1) p0
  show zJ _ _ _ _ _ _ _ _ _ _ _ _ _ _ _ _ _ 0 [(0, .ref (a 0)), (1, .int (p0)), (2, .ref o)] []
  refine zj_aload_n 1 X 2 dL_hand_0 rfl rfl ?_
  refine zj_iconst 2 X (v := 0) dL_hand_1 (by decide) rfl ?_
  refine zj_aload_n 3 X 0 dL_hand_2 rfl rfl ?_
  refine zj_iload_n 4 X 1 dL_hand_3 rfl rfl ?_
  refine zc_ltc 7 (zr_Vx (As := [.int (p0)]) (rest := [.int 0, .ref o]) X (zc_X4_hand (l := l) (D := D) (C := C) (a := a) (u := w.1) (p0 := p0) (hfl := hfl)) zw_L_52 zn_X4_hand (zcR_of rfl) zO_S0 (zD_l hD) hA rfl (Nat.le_of_ble_eq_true rfl) dL_hand_4) hD hA rfl (fun h0 => ?_) (fun h0 => ?_)
  · rw [if_pos h0] at hv
    refine zt_out 8 (o := o) (w := ((zf_X4_hand (w.1) p0).2.2, w.2)) X (zWo_D _ hD) dL_hand_7 rfl ?_
    refine zj_goto 14 X dL_hand_8 (by decide) ?_
    refine zj_iconst 15 X (v := 0) dL_hand_14 (by decide) rfl ?_
    exact ze_iw (Wd := zWo C a o) (by decide) (by decide) X Y hv dL_hand_15
  · rw [if_neg h0] at hv
    have hcd := hcd.resolve_left h0
    rw [hcd]
    refine zJ_catch (name := "java/lang/IndexOutOfBoundsException") X [] ⟨0, 8, 11, 38⟩ [] (htab.trans rfl) (fun z hz => by cases hz) (by decide) (by decide) (zG_t 335 (by decide +kernel) rfl) (by decide +kernel) (fun q => ?_)
    show zJ _ _ _ _ _ _ _ _ _ _ _ _ _ _ _ _ _ 11 _ _
    refine zj_astore_n 12 X (lv1 := [(0, .ref (a 0)), (1, .int (p0)), (2, .ref o), (3, .ref q)]) [1, 2, 3, 0] dL_hand_11 (by decide) rfl rfl ?_
    refine zj_iconst 13 X (v := 1) dL_hand_12 (by decide) rfl ?_
    exact ze_iw (Wd := zWo C a o) (w := w) (by decide) (by decide) X Y hv dL_hand_13
def zw_inTrick (w : zU × (Nat → Int64)) (p0 : Int32) : Int32 × (zU × (Nat → Int64)) := if (zf_X4_inTrick (w.1) p0).1 = 0 then (0, ((zf_X4_inTrick (w.1) p0).2.2, vp_updL w.2 0 ((zf_X4_inTrick (w.1) p0).2.1.toInt64))) else (1, w)
set_option maxHeartbeats 2000000 in
theorem zcd_inTrick (u : zU) (p0 : Int32) : (zf_X4_inTrick u p0).1 = 0 ∨ (zf_X4_inTrick u p0).1 = 1 := by
  simp only [zf_X4_inTrick]
  repeat' split
  all_goals first | (simp; done) | simp_all
abbrev zR_L_inTrick : Room := { frames := 7, cells := 1, slots := 6, locals := 111 }
set_option maxHeartbeats 4000000 in
set_option maxRecDepth 100000 in
theorem zc_L_inTrick {l : Launch} {D : va_G} {C : ClassId × ClassId} {a : Nat → Nat} {o : Nat} {w : zU × (Nat → Int64)} {p0 : Int32} (hfl : l.stackTraces = false) : zk_Mw l yL_inTrick cL_inTrick 4 [(0, 9, 12, 13)] zR_L_inTrick 1 6 [.ref (a 0), .int (p0), .ref o] (zWo C a o w) D C (fun A => va_Qi (fun r u' => (r, u') = zw_inTrick w p0) (fun u' t => va_P D vwCl (zWo C a o u') t.heap) A) := by
  refine zk_mw (by decide) (Nat.le_of_ble_eq_true rfl) ?_
  intro p e s m below meth c A X Y htab hD hA
  generalize hv : zw_inTrick w p0 = V
  unfold zw_inTrick at hv
  have hcd := zcd_inTrick (w.1) p0
  show zJ _ _ _ _ _ _ _ _ _ _ _ _ _ _ _ _ _ 0 [(0, .ref (a 0)), (1, .int (p0)), (2, .ref o)] []
  refine zj_aload_n 1 X 2 dL_inTrick_0 rfl rfl ?_
  refine zj_iconst 2 X (v := 0) dL_inTrick_1 (by decide) rfl ?_
  refine zj_aload_n 3 X 0 dL_inTrick_2 rfl rfl ?_
  refine zj_iload_n 4 X 1 dL_inTrick_3 rfl rfl ?_
  refine zc_itc 7 (zr_Vx (As := [.int (p0)]) (rest := [.int 0, .ref o]) X (zc_X4_inTrick (l := l) (D := D) (C := C) (a := a) (u := w.1) (p0 := p0) (hfl := hfl)) zw_L_56 zn_X4_inTrick (zcR_of rfl) zO_S0 (zD_l hD) hA rfl (Nat.le_of_ble_eq_true rfl) dL_inTrick_4) hD hA rfl (fun h0 => ?_) (fun h0 => ?_)
  · rw [if_pos h0] at hv
    refine zj_i2l 8 X dL_inTrick_7 rfl rfl ?_
    refine zt_out 9 (o := o) (w := ((zf_X4_inTrick (w.1) p0).2.2, w.2)) X (zWo_D _ hD) dL_inTrick_8 rfl ?_
    refine zj_goto 15 X dL_inTrick_9 (by decide) ?_
    refine zj_iconst 16 X (v := 0) dL_inTrick_15 (by decide) rfl ?_
    exact ze_iw (Wd := zWo C a o) (by decide) (by decide) X Y hv dL_inTrick_16
  · rw [if_neg h0] at hv
    have hcd := hcd.resolve_left h0
    rw [hcd]
    refine zJ_catch (name := "java/lang/IllegalArgumentException") X [] ⟨0, 9, 12, 13⟩ [] (htab.trans rfl) (fun z hz => by cases hz) (by decide) (by decide) (zG_t 177 (by decide +kernel) rfl) (by decide +kernel) (fun q => ?_)
    show zJ _ _ _ _ _ _ _ _ _ _ _ _ _ _ _ _ _ 12 _ _
    refine zj_astore_n 13 X (lv1 := [(0, .ref (a 0)), (1, .int (p0)), (2, .ref o), (3, .ref q)]) [1, 2, 3, 0] dL_inTrick_12 (by decide) rfl rfl ?_
    refine zj_iconst 14 X (v := 1) dL_inTrick_13 (by decide) rfl ?_
    exact ze_iw (Wd := zWo C a o) (w := w) (by decide) (by decide) X Y hv dL_inTrick_14
def zw_points (w : zU × (Nat → Int64)) (p0 : Int32) : Int32 × (zU × (Nat → Int64)) := if (zf_X4_points (w.1) p0).1 = 0 then (0, ((zf_X4_points (w.1) p0).2.2, vp_updL w.2 0 ((zf_X4_points (w.1) p0).2.1.toInt64))) else (1, w)
set_option maxHeartbeats 2000000 in
theorem zcd_points (u : zU) (p0 : Int32) : (zf_X4_points u p0).1 = 0 ∨ (zf_X4_points u p0).1 = 3 := by
  simp only [zf_X4_points, zf_X4_refuseNoPlayer]
  repeat' split
  all_goals first | (simp; done) | simp_all
abbrev zR_L_points : Room := { frames := 8, cells := 1, slots := 6, locals := 131 }
set_option maxHeartbeats 4000000 in
set_option maxRecDepth 100000 in
theorem zc_L_points {l : Launch} {D : va_G} {C : ClassId × ClassId} {a : Nat → Nat} {o : Nat} {w : zU × (Nat → Int64)} {p0 : Int32} (hfl : l.stackTraces = false) : zk_Mw l yL_points cL_points 4 [(0, 9, 12, 38)] zR_L_points 1 6 [.ref (a 0), .int (p0), .ref o] (zWo C a o w) D C (fun A => va_Qi (fun r u' => (r, u') = zw_points w p0) (fun u' t => va_P D vwCl (zWo C a o u') t.heap) A) := by
  refine zk_mw (by decide) (Nat.le_of_ble_eq_true rfl) ?_
  intro p e s m below meth c A X Y htab hD hA
  generalize hv : zw_points w p0 = V
  unfold zw_points at hv
  have hcd := zcd_points (w.1) p0
  show zJ _ _ _ _ _ _ _ _ _ _ _ _ _ _ _ _ _ 0 [(0, .ref (a 0)), (1, .int (p0)), (2, .ref o)] []
  refine zj_aload_n 1 X 2 dL_points_0 rfl rfl ?_
  refine zj_iconst 2 X (v := 0) dL_points_1 (by decide) rfl ?_
  refine zj_aload_n 3 X 0 dL_points_2 rfl rfl ?_
  refine zj_iload_n 4 X 1 dL_points_3 rfl rfl ?_
  refine zc_itc 7 (zr_Vx (As := [.int (p0)]) (rest := [.int 0, .ref o]) X (zc_X4_points (l := l) (D := D) (C := C) (a := a) (u := w.1) (p0 := p0) (hfl := hfl)) zw_L_59 zn_X4_points (zcR_of rfl) zO_S0 (zD_l hD) hA rfl (Nat.le_of_ble_eq_true rfl) dL_points_4) hD hA rfl (fun h0 => ?_) (fun h0 => ?_)
  · rw [if_pos h0] at hv
    refine zj_i2l 8 X dL_points_7 rfl rfl ?_
    refine zt_out 9 (o := o) (w := ((zf_X4_points (w.1) p0).2.2, w.2)) X (zWo_D _ hD) dL_points_8 rfl ?_
    refine zj_goto 15 X dL_points_9 (by decide) ?_
    refine zj_iconst 16 X (v := 0) dL_points_15 (by decide) rfl ?_
    exact ze_iw (Wd := zWo C a o) (by decide) (by decide) X Y hv dL_points_16
  · rw [if_neg h0] at hv
    have hcd := hcd.resolve_left h0
    rw [hcd]
    refine zJ_catch (name := "java/lang/IndexOutOfBoundsException") X [] ⟨0, 9, 12, 38⟩ [] (htab.trans rfl) (fun z hz => by cases hz) (by decide) (by decide) (zG_t 335 (by decide +kernel) rfl) (by decide +kernel) (fun q => ?_)
    show zJ _ _ _ _ _ _ _ _ _ _ _ _ _ _ _ _ _ 12 _ _
    refine zj_astore_n 13 X (lv1 := [(0, .ref (a 0)), (1, .int (p0)), (2, .ref o), (3, .ref q)]) [1, 2, 3, 0] dL_points_12 (by decide) rfl rfl ?_
    refine zj_iconst 14 X (v := 1) dL_points_13 (by decide) rfl ?_
    exact ze_iw (Wd := zWo C a o) (w := w) (by decide) (by decide) X Y hv dL_points_14
def zw_tricks (w : zU × (Nat → Int64)) (p0 : Int32) : Int32 × (zU × (Nat → Int64)) := if (zf_X4_tricks (w.1) p0).1 = 0 then (0, ((zf_X4_tricks (w.1) p0).2.2, vp_updL w.2 0 ((zf_X4_tricks (w.1) p0).2.1.toInt64))) else (1, w)
set_option maxHeartbeats 2000000 in
theorem zcd_tricks (u : zU) (p0 : Int32) : (zf_X4_tricks u p0).1 = 0 ∨ (zf_X4_tricks u p0).1 = 3 := by
  simp only [zf_X4_tricks, zf_X4_refuseNoPlayer]
  repeat' split
  all_goals first | (simp; done) | simp_all
abbrev zR_L_tricks : Room := { frames := 8, cells := 1, slots := 6, locals := 131 }
set_option maxHeartbeats 4000000 in
set_option maxRecDepth 100000 in
theorem zc_L_tricks {l : Launch} {D : va_G} {C : ClassId × ClassId} {a : Nat → Nat} {o : Nat} {w : zU × (Nat → Int64)} {p0 : Int32} (hfl : l.stackTraces = false) : zk_Mw l yL_tricks cL_tricks 4 [(0, 9, 12, 38)] zR_L_tricks 1 6 [.ref (a 0), .int (p0), .ref o] (zWo C a o w) D C (fun A => va_Qi (fun r u' => (r, u') = zw_tricks w p0) (fun u' t => va_P D vwCl (zWo C a o u') t.heap) A) := by
  refine zk_mw (by decide) (Nat.le_of_ble_eq_true rfl) ?_
  intro p e s m below meth c A X Y htab hD hA
  generalize hv : zw_tricks w p0 = V
  unfold zw_tricks at hv
  have hcd := zcd_tricks (w.1) p0
  show zJ _ _ _ _ _ _ _ _ _ _ _ _ _ _ _ _ _ 0 [(0, .ref (a 0)), (1, .int (p0)), (2, .ref o)] []
  refine zj_aload_n 1 X 2 dL_tricks_0 rfl rfl ?_
  refine zj_iconst 2 X (v := 0) dL_tricks_1 (by decide) rfl ?_
  refine zj_aload_n 3 X 0 dL_tricks_2 rfl rfl ?_
  refine zj_iload_n 4 X 1 dL_tricks_3 rfl rfl ?_
  refine zc_itc 7 (zr_Vx (As := [.int (p0)]) (rest := [.int 0, .ref o]) X (zc_X4_tricks (l := l) (D := D) (C := C) (a := a) (u := w.1) (p0 := p0) (hfl := hfl)) zw_L_62 zn_X4_tricks (zcR_of rfl) zO_S0 (zD_l hD) hA rfl (Nat.le_of_ble_eq_true rfl) dL_tricks_4) hD hA rfl (fun h0 => ?_) (fun h0 => ?_)
  · rw [if_pos h0] at hv
    refine zj_i2l 8 X dL_tricks_7 rfl rfl ?_
    refine zt_out 9 (o := o) (w := ((zf_X4_tricks (w.1) p0).2.2, w.2)) X (zWo_D _ hD) dL_tricks_8 rfl ?_
    refine zj_goto 15 X dL_tricks_9 (by decide) ?_
    refine zj_iconst 16 X (v := 0) dL_tricks_15 (by decide) rfl ?_
    exact ze_iw (Wd := zWo C a o) (by decide) (by decide) X Y hv dL_tricks_16
  · rw [if_neg h0] at hv
    have hcd := hcd.resolve_left h0
    rw [hcd]
    refine zJ_catch (name := "java/lang/IndexOutOfBoundsException") X [] ⟨0, 9, 12, 38⟩ [] (htab.trans rfl) (fun z hz => by cases hz) (by decide) (by decide) (zG_t 335 (by decide +kernel) rfl) (by decide +kernel) (fun q => ?_)
    show zJ _ _ _ _ _ _ _ _ _ _ _ _ _ _ _ _ _ 12 _ _
    refine zj_astore_n 13 X (lv1 := [(0, .ref (a 0)), (1, .int (p0)), (2, .ref o), (3, .ref q)]) [1, 2, 3, 0] dL_tricks_12 (by decide) rfl rfl ?_
    refine zj_iconst 14 X (v := 1) dL_tricks_13 (by decide) rfl ?_
    exact ze_iw (Wd := zWo C a o) (w := w) (by decide) (by decide) X Y hv dL_tricks_14
def zw_value (w : zU × (Nat → Int64)) : Int32 × (zU × (Nat → Int64)) := if (zf_X4_value (w.1)).1 = 0 then (0, ((zf_X4_value (w.1)).2.2, vp_updL w.2 0 ((zf_X4_value (w.1)).2.1.toInt64))) else (1, w)
set_option maxHeartbeats 2000000 in
theorem zcd_value (u : zU) : (zf_X4_value u).1 = 0 ∨ (zf_X4_value u).1 = 2 := by
  simp only [zf_X4_value]
  repeat' split
  all_goals first | (simp; done) | simp_all
abbrev zR_L_value : Room := { frames := 7, cells := 1, slots := 6, locals := 110 }
set_option maxHeartbeats 4000000 in
set_option maxRecDepth 100000 in
theorem zc_L_value {l : Launch} {D : va_G} {C : ClassId × ClassId} {a : Nat → Nat} {o : Nat} {w : zU × (Nat → Int64)} (hfl : l.stackTraces = false) : zk_Mw l yL_value cL_value 3 [(0, 8, 11, 18)] zR_L_value 1 6 [.ref (a 0), .ref o] (zWo C a o w) D C (fun A => va_Qi (fun r u' => (r, u') = zw_value w) (fun u' t => va_P D vwCl (zWo C a o u') t.heap) A) := by
  refine zk_mw (by decide) (Nat.le_of_ble_eq_true rfl) ?_
  intro p e s m below meth c A X Y htab hD hA
  generalize hv : zw_value w = V
  unfold zw_value at hv
  have hcd := zcd_value (w.1)
  show zJ _ _ _ _ _ _ _ _ _ _ _ _ _ _ _ _ _ 0 [(0, .ref (a 0)), (1, .ref o)] []
  refine zj_aload_n 1 X 1 dL_value_0 rfl rfl ?_
  refine zj_iconst 2 X (v := 0) dL_value_1 (by decide) rfl ?_
  refine zj_aload_n 3 X 0 dL_value_2 rfl rfl ?_
  refine zc_itc 6 (zr_Vx (As := []) (rest := [.int 0, .ref o]) X (zc_X4_value (l := l) (D := D) (C := C) (a := a) (u := w.1) (hfl := hfl)) zw_L_65 zn_X4_value (zcR_of rfl) zO_S0 (zD_l hD) hA rfl (Nat.le_of_ble_eq_true rfl) dL_value_3) hD hA rfl (fun h0 => ?_) (fun h0 => ?_)
  · rw [if_pos h0] at hv
    refine zj_i2l 7 X dL_value_6 rfl rfl ?_
    refine zt_out 8 (o := o) (w := ((zf_X4_value (w.1)).2.2, w.2)) X (zWo_D _ hD) dL_value_7 rfl ?_
    refine zj_goto 14 X dL_value_8 (by decide) ?_
    refine zj_iconst 15 X (v := 0) dL_value_14 (by decide) rfl ?_
    exact ze_iw (Wd := zWo C a o) (by decide) (by decide) X Y hv dL_value_15
  · rw [if_neg h0] at hv
    have hcd := hcd.resolve_left h0
    rw [hcd]
    refine zJ_catch (name := "java/lang/IllegalStateException") X [] ⟨0, 8, 11, 18⟩ [] (htab.trans rfl) (fun z hz => by cases hz) (by decide) (by decide) (zG_t 253 (by decide +kernel) rfl) (by decide +kernel) (fun q => ?_)
    show zJ _ _ _ _ _ _ _ _ _ _ _ _ _ _ _ _ _ 11 _ _
    refine zj_astore_n 12 X (lv1 := [(0, .ref (a 0)), (1, .ref o), (2, .ref q)]) [1, 2, 0] dL_value_11 (by decide) rfl rfl ?_
    refine zj_iconst 13 X (v := 1) dL_value_12 (by decide) rfl ?_
    exact ze_iw (Wd := zWo C a o) (w := w) (by decide) (by decide) X Y hv dL_value_13
def zw_score (w : zU × (Nat → Int64)) (p0 : Int32) : Int32 × (zU × (Nat → Int64)) := if (zf_X4_score (w.1) p0).1 = 0 then (0, ((zf_X4_score (w.1) p0).2.2, vp_updL w.2 0 ((zf_X4_score (w.1) p0).2.1.toInt64))) else (1, w)
set_option maxHeartbeats 2000000 in
theorem zcd_score (u : zU) (p0 : Int32) : (zf_X4_score u p0).1 = 0 ∨ (zf_X4_score u p0).1 = 3 := by
  simp only [zf_X4_score, zf_X4_refuseNoPlayer]
  repeat' split
  all_goals first | (simp; done) | simp_all
abbrev zR_L_score : Room := { frames := 8, cells := 1, slots := 6, locals := 131 }
set_option maxHeartbeats 4000000 in
set_option maxRecDepth 100000 in
theorem zc_L_score {l : Launch} {D : va_G} {C : ClassId × ClassId} {a : Nat → Nat} {o : Nat} {w : zU × (Nat → Int64)} {p0 : Int32} (hfl : l.stackTraces = false) : zk_Mw l yL_score cL_score 4 [(0, 9, 12, 38)] zR_L_score 1 6 [.ref (a 0), .int (p0), .ref o] (zWo C a o w) D C (fun A => va_Qi (fun r u' => (r, u') = zw_score w p0) (fun u' t => va_P D vwCl (zWo C a o u') t.heap) A) := by
  refine zk_mw (by decide) (Nat.le_of_ble_eq_true rfl) ?_
  intro p e s m below meth c A X Y htab hD hA
  generalize hv : zw_score w p0 = V
  unfold zw_score at hv
  have hcd := zcd_score (w.1) p0
  show zJ _ _ _ _ _ _ _ _ _ _ _ _ _ _ _ _ _ 0 [(0, .ref (a 0)), (1, .int (p0)), (2, .ref o)] []
  refine zj_aload_n 1 X 2 dL_score_0 rfl rfl ?_
  refine zj_iconst 2 X (v := 0) dL_score_1 (by decide) rfl ?_
  refine zj_aload_n 3 X 0 dL_score_2 rfl rfl ?_
  refine zj_iload_n 4 X 1 dL_score_3 rfl rfl ?_
  refine zc_itc 7 (zr_Vx (As := [.int (p0)]) (rest := [.int 0, .ref o]) X (zc_X4_score (l := l) (D := D) (C := C) (a := a) (u := w.1) (p0 := p0) (hfl := hfl)) zw_L_68 zn_X4_score (zcR_of rfl) zO_S0 (zD_l hD) hA rfl (Nat.le_of_ble_eq_true rfl) dL_score_4) hD hA rfl (fun h0 => ?_) (fun h0 => ?_)
  · rw [if_pos h0] at hv
    refine zj_i2l 8 X dL_score_7 rfl rfl ?_
    refine zt_out 9 (o := o) (w := ((zf_X4_score (w.1) p0).2.2, w.2)) X (zWo_D _ hD) dL_score_8 rfl ?_
    refine zj_goto 15 X dL_score_9 (by decide) ?_
    refine zj_iconst 16 X (v := 0) dL_score_15 (by decide) rfl ?_
    exact ze_iw (Wd := zWo C a o) (by decide) (by decide) X Y hv dL_score_16
  · rw [if_neg h0] at hv
    have hcd := hcd.resolve_left h0
    rw [hcd]
    refine zJ_catch (name := "java/lang/IndexOutOfBoundsException") X [] ⟨0, 9, 12, 38⟩ [] (htab.trans rfl) (fun z hz => by cases hz) (by decide) (by decide) (zG_t 335 (by decide +kernel) rfl) (by decide +kernel) (fun q => ?_)
    show zJ _ _ _ _ _ _ _ _ _ _ _ _ _ _ _ _ _ 12 _ _
    refine zj_astore_n 13 X (lv1 := [(0, .ref (a 0)), (1, .int (p0)), (2, .ref o), (3, .ref q)]) [1, 2, 3, 0] dL_score_12 (by decide) rfl rfl ?_
    refine zj_iconst 14 X (v := 1) dL_score_13 (by decide) rfl ?_
    exact ze_iw (Wd := zWo C a o) (w := w) (by decide) (by decide) X Y hv dL_score_14
