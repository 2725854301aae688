def zf_X1_setOf (p0 : Int32) : Int64 := 1 <<< (p0.toInt64 &&& 63)
abbrev zR_X1_setOf : Room := { frames := 0, cells := 0, slots := 0, locals := 0 }
set_option maxHeartbeats 4000000 in
set_option maxRecDepth 100000 in
theorem zc_X1_setOf {l : Launch} {D : va_G} {C : ClassId × ClassId} {p0 : Int32} : zk_Mp l yX1_setOf cX1_setOf 1 (some .long) zR_X1_setOf [.int (p0)] [] D C (vp_Sl (fun r => r = zf_X1_setOf p0)) := by
  refine zk_mp (by decide) (Nat.le_of_ble_eq_true rfl) ?_
  intro p e s m below meth c X Y
  generalize hv : zf_X1_setOf p0 = V
  unfold zf_X1_setOf at hv
  show zJ _ _ _ _ _ _ _ _ _ _ _ _ _ _ _ _ _ 0 [(0, .int (p0))] []
  refine zj_lconst 1 X (v := 1) dX1_setOf_0 (by decide) rfl ?_
  refine zj_iload_n 2 X 0 dX1_setOf_1 rfl rfl ?_
  refine zj_lshl 3 X dX1_setOf_2 rfl rfl ?_
  exact ze_l X Y hv dX1_setOf_3
def zf_X1_rankOf (p0 : Int32) : Int32 := p0 &&& 7
abbrev zR_X1_rankOf : Room := { frames := 0, cells := 0, slots := 0, locals := 0 }
set_option maxHeartbeats 4000000 in
set_option maxRecDepth 100000 in
theorem zc_X1_rankOf {l : Launch} {D : va_G} {C : ClassId × ClassId} {p0 : Int32} : zk_Mp l yX1_rankOf cX1_rankOf 1 (some .int) zR_X1_rankOf [.int (p0)] [] D C (vp_Si (fun r => r = zf_X1_rankOf p0)) := by
  refine zk_mp (by decide) (Nat.le_of_ble_eq_true rfl) ?_
  intro p e s m below meth c X Y
  generalize hv : zf_X1_rankOf p0 = V
  unfold zf_X1_rankOf at hv
  show zJ _ _ _ _ _ _ _ _ _ _ _ _ _ _ _ _ _ 0 [(0, .int (p0))] []
  refine zj_iload_n 1 X 0 dX1_rankOf_0 rfl rfl ?_
  refine zj_bipush 3 X (v := 7) dX1_rankOf_1 (by decide) rfl ?_
  refine zj_iand 4 X dX1_rankOf_3 rfl ?_
  exact ze_i X Y hv dX1_rankOf_4
theorem zrank_in (x : Int32) : vp_in (zf_X1_rankOf x) 8 := pk_andIn x (m := 7) 3 rfl (by decide)
def zf_X1_suit (p0 : Int32) : Int64 := 255 <<< ((p0 * 8).toInt64 &&& 63)
abbrev zR_X1_suit : Room := { frames := 0, cells := 0, slots := 0, locals := 0 }
set_option maxHeartbeats 4000000 in
set_option maxRecDepth 100000 in
theorem zc_X1_suit {l : Launch} {D : va_G} {C : ClassId × ClassId} {p0 : Int32} : zk_Mp l yX1_suit cX1_suit 1 (some .long) zR_X1_suit [.int (p0)] [] D C (vp_Sl (fun r => r = zf_X1_suit p0)) := by
  refine zk_mp (by decide) (Nat.le_of_ble_eq_true rfl) ?_
  intro p e s m below meth c X Y
  generalize hv : zf_X1_suit p0 = V
  unfold zf_X1_suit at hv
  show zJ _ _ _ _ _ _ _ _ _ _ _ _ _ _ _ _ _ 0 [(0, .int (p0))] []
  refine zj_ldc2 3 X (v := 255) (zG_t 382 (by decide +kernel) rfl) dX1_suit_0 rfl ?_
  refine zj_iload_n 4 X 0 dX1_suit_3 rfl rfl ?_
  refine zj_bipush 6 X (v := 8) dX1_suit_4 (by decide) rfl ?_
  refine zj_imul 7 X dX1_suit_6 rfl ?_
  refine zj_lshl 8 X dX1_suit_7 rfl rfl ?_
  exact ze_l X Y hv dX1_suit_8
def zf_X1_ofRank (f : Nat → Int32) (p0 : Int32) : Int32 := if p0 < 0 then 0 else (if 8 ≤ p0 then 0 else f p0.toNatClampNeg)
abbrev zR_X1_ofRank : Room := { frames := 0, cells := 0, slots := 0, locals := 0 }
set_option maxHeartbeats 4000000 in
set_option maxRecDepth 100000 in
theorem zc_X1_ofRank {l : Launch} {D : va_G} {C : ClassId × ClassId} {t : Nat} {f : Nat → Int32} {p0 : Int32} : zk_Mq l yX1_ofRank cX1_ofRank 2 (some .int) zR_X1_ofRank [.ref (t), .int (p0)] [] D C t f (vp_Si (fun r => r = zf_X1_ofRank f p0)) := by
  refine zk_mq (by decide) (Nat.le_of_ble_eq_true rfl) ?_
  intro p e s m below meth c X Y hT
  generalize hv : zf_X1_ofRank f p0 = V
  unfold zf_X1_ofRank at hv
  show zJ _ _ _ _ _ _ _ _ _ _ _ _ _ _ _ _ _ 0 [(0, .ref (t)), (1, .int (p0))] []
  refine zj_iload_n 1 X 1 dX1_ofRank_0 rfl rfl ?_
  refine zj_if_lt 4 16 X dX1_ofRank_1 (by decide) rfl (fun c1 => ?_) (fun c1 => ?_)
  · rw [if_pos c1] at hv
    refine zj_iconst 17 X (v := 0) dX1_ofRank_16 (by decide) rfl ?_
    exact ze_i X Y hv dX1_ofRank_17
  · rw [if_neg c1] at hv
    refine zj_iload_n 5 X 1 dX1_ofRank_4 rfl rfl ?_
    refine zj_aload_n 6 X 0 dX1_ofRank_5 rfl rfl ?_
    refine zqn_F 7 X hT dX1_ofRank_6 rfl ?_
    refine zj_icmp_ge 10 16 X dX1_ofRank_7 (by decide) rfl (fun c2 => ?_) (fun c2 => ?_)
    · rw [if_pos c2] at hv
      refine zj_iconst 17 X (v := 0) dX1_ofRank_16 (by decide) rfl ?_
      exact ze_i X Y hv dX1_ofRank_17
    · rw [if_neg c2] at hv
      refine zj_aload_n 11 X 0 dX1_ofRank_10 rfl rfl ?_
      refine zj_iload_n 12 X 1 dX1_ofRank_11 rfl rfl ?_
      refine zqi_F 13 X hT (zin_lo (n := 8) c1 (Int32.not_le.mp c2) (by decide)) dX1_ofRank_12 rfl ?_
      refine zj_goto 17 X dX1_ofRank_13 (by decide) ?_
      exact ze_i X Y hv dX1_ofRank_17
def zf_X1_pointsOf (p0 : Int32) : Int32 := zf_X1_ofRank zk_pts (zf_X1_rankOf p0)
abbrev zR_X1_pointsOf : Room := { frames := 1, cells := 0, slots := 0, locals := 21 }
set_option maxHeartbeats 4000000 in
set_option maxRecDepth 100000 in
theorem zc_X1_pointsOf {l : Launch} {D : va_G} {C : ClassId × ClassId} {p0 : Int32} : zk_Mp l yX1_pointsOf cX1_pointsOf 1 (some .int) zR_X1_pointsOf [.int (p0)] [] D C (vp_Si (fun r => r = zf_X1_pointsOf p0)) := by
  refine zk_mp (by decide) (Nat.le_of_ble_eq_true rfl) ?_
  intro p e s m below meth c X Y
  generalize hv : zf_X1_pointsOf p0 = V
  unfold zf_X1_pointsOf at hv
  show zJ _ _ _ _ _ _ _ _ _ _ _ _ _ _ _ _ _ 0 [(0, .int (p0))] []
  refine zq_POINTS 3 X dX1_pointsOf_0 rfl (fun t1 hT2 => ?_)
  refine zj_iload_n 4 X 0 dX1_pointsOf_3 rfl rfl ?_
  refine zc_i 7 (zr_S (As := [.int (p0)]) (rest := [.ref (t1)]) X (zc_X1_rankOf (l := l) (p0 := p0)) zw_X1_17 zn_X1_rankOf (zcR_of rfl) zs0 rfl (Nat.le_of_ble_eq_true rfl) dX1_pointsOf_4) rfl ?_
  refine zc_i 10 (zr_Sq (As := [.ref (t1), .int (zf_X1_rankOf p0)]) (rest := []) X (zc_X1_ofRank (l := l) (t := t1) (f := zk_pts) (p0 := zf_X1_rankOf p0)) zw_X1_21 zn_X1_ofRank (zcR_of rfl) hT2 zs0 rfl (Nat.le_of_ble_eq_true rfl) dX1_pointsOf_7) rfl ?_
  exact ze_i X Y hv dX1_pointsOf_10
def zf_X1_trumps (p0 : Int32) : Int64 := if p0 = 5 then 0 else (if p0 < 0 then 2155905152 else (if 4 ≤ p0 then 2155905152 else 2155905152 ||| (zf_X1_suit p0)))
abbrev zR_X1_trumps : Room := { frames := 1, cells := 0, slots := 0, locals := 20 }
set_option maxHeartbeats 4000000 in
set_option maxRecDepth 100000 in
theorem zc_X1_trumps {l : Launch} {D : va_G} {C : ClassId × ClassId} {p0 : Int32} : zk_Mp l yX1_trumps cX1_trumps 1 (some .long) zR_X1_trumps [.int (p0)] [] D C (vp_Sl (fun r => r = zf_X1_trumps p0)) := by
  refine zk_mp (by decide) (Nat.le_of_ble_eq_true rfl) ?_
  intro p e s m below meth c X Y
  generalize hv : zf_X1_trumps p0 = V
  unfold zf_X1_trumps at hv
  show zJ _ _ _ _ _ _ _ _ _ _ _ _ _ _ _ _ _ 0 [(0, .int (p0))] []
  refine zj_iload_n 1 X 0 dX1_trumps_0 rfl rfl ?_
  refine zj_iconst 2 X (v := 5) dX1_trumps_1 (by decide) rfl ?_
  refine zj_icmp_ne 5 7 X dX1_trumps_2 (by decide) rfl (fun c1 => ?_) (fun c1 => ?_)
  · rw [if_neg c1] at hv
    refine zj_iload_n 8 X 0 dX1_trumps_7 rfl rfl ?_
    refine zj_if_lt 11 27 X dX1_trumps_8 (by decide) rfl (fun c2 => ?_) (fun c2 => ?_)
    · rw [if_pos c2] at hv
      refine zj_ldc2 30 X (v := 2155905152) (zG_t 378 (by decide +kernel) rfl) dX1_trumps_27 rfl ?_
      exact ze_l X Y hv dX1_trumps_30
    · rw [if_neg c2] at hv
      refine zj_iload_n 12 X 0 dX1_trumps_11 rfl rfl ?_
      refine zj_iconst 13 X (v := 4) dX1_trumps_12 (by decide) rfl ?_
      refine zj_icmp_ge 16 27 X dX1_trumps_13 (by decide) rfl (fun c3 => ?_) (fun c3 => ?_)
      · rw [if_pos c3] at hv
        refine zj_ldc2 30 X (v := 2155905152) (zG_t 378 (by decide +kernel) rfl) dX1_trumps_27 rfl ?_
        exact ze_l X Y hv dX1_trumps_30
      · rw [if_neg c3] at hv
        refine zj_ldc2 19 X (v := 2155905152) (zG_t 378 (by decide +kernel) rfl) dX1_trumps_16 rfl ?_
        refine zj_iload_n 20 X 0 dX1_trumps_19 rfl rfl ?_
        refine zc_l 23 (zr_S (As := [.int (p0)]) (rest := [.long (2155905152)]) X (zc_X1_suit (l := l) (p0 := p0)) zw_X1_34 zn_X1_suit (zcR_of rfl) zs0 rfl (Nat.le_of_ble_eq_true rfl) dX1_trumps_20) rfl ?_
        refine zj_lor 24 X dX1_trumps_23 rfl ?_
        refine zj_goto 30 X dX1_trumps_24 (by decide) ?_
        exact ze_l X Y hv dX1_trumps_30
  · rw [if_pos c1] at hv
    refine zj_lconst 6 X (v := 0) dX1_trumps_5 (by decide) rfl ?_
    exact ze_l X Y hv dX1_trumps_6
def zl_X1_pointsIn_lp (p0 : Int64) : Nat → Nat → Int32 → Int32
  | 0, i, x2 => x2
  | k + 1, i, x2 => if (lg_cmp (p0 &&& (zf_X1_setOf (nI i))) 0) = 0 then zl_X1_pointsIn_lp p0 k (i + 1) x2 else zl_X1_pointsIn_lp p0 k (i + 1) (x2 + (zf_X1_pointsOf (nI i)))
def zf_X1_pointsIn (p0 : Int64) : Int32 := zl_X1_pointsIn_lp p0 32 0 0
abbrev zR_X1_pointsIn : Room := { frames := 2, cells := 0, slots := 0, locals := 41 }
set_option maxHeartbeats 4000000 in
set_option maxRecDepth 100000 in
theorem zc_X1_pointsIn {l : Launch} {D : va_G} {C : ClassId × ClassId} {p0 : Int64} : zk_Mp l yX1_pointsIn cX1_pointsIn 4 (some .int) zR_X1_pointsIn [.long (p0)] [] D C (vp_Si (fun r => r = zf_X1_pointsIn p0)) := by
  refine zk_mp (by decide) (Nat.le_of_ble_eq_true rfl) ?_
  intro p e s m below meth c X Y
  generalize hv : zf_X1_pointsIn p0 = V
  unfold zf_X1_pointsIn at hv
  show zJ _ _ _ _ _ _ _ _ _ _ _ _ _ _ _ _ _ 0 [(0, .long (p0))] []
  refine zj_iconst 1 X (v := 0) dX1_pointsIn_0 (by decide) rfl ?_
  refine zj_istore_n 2 X (lv1 := [(0, .long (p0)), (2, .int (0))]) [1, 0] dX1_pointsIn_1 (by decide) rfl rfl ?_
  refine zj_iconst 3 X (v := 0) dX1_pointsIn_2 (by decide) rfl ?_
  refine zj_istore_n 4 X (lv1 := [(0, .long (p0)), (2, .int (0)), (3, .int (0))]) [1, 2, 0] dX1_pointsIn_3 (by decide) rfl rfl ?_
  have L1 : ∀ (k i : Nat) (x2 : Int32), i + k = 32 → zl_X1_pointsIn_lp p0 k i x2 = V → zJ p l e zR_X1_pointsIn s m ([.long (p0)] : List Value).toArray below meth c 0 0 (MQ below (vp_Si (fun r => r = V)) ([.long (p0)] : List Value).toArray s 0 0 (fun _ => False)) D (zk_K0 s) 4 [] 4 [(0, .long (p0)), (2, .int (x2)), (3, .int (nI i))] [] := by
    intro k
    induction k with
    | zero =>
      intro i x2 h1 hv
      rw [zl_X1_pointsIn_lp] at hv
      refine zj_iload_n 5 X 2 dX1_pointsIn_4 rfl rfl ?_
      refine zj_bipush 7 X (v := 32) dX1_pointsIn_5 (by decide) rfl ?_
      refine zj_icmp_ge 10 34 X dX1_pointsIn_7 (by decide) rfl (fun _ => ?_) (fun c2 => absurd (zge0 (N := 32) (by rfl) (by omega)) c2)
      refine zj_iload_n 35 X 1 dX1_pointsIn_34 rfl rfl ?_
      exact ze_i X Y hv dX1_pointsIn_35
    | succ k ih =>
      intro i x2 h1 hv
      rw [zl_X1_pointsIn_lp] at hv
      refine zj_iload_n 5 X 2 dX1_pointsIn_4 rfl rfl ?_
      refine zj_bipush 7 X (v := 32) dX1_pointsIn_5 (by decide) rfl ?_
      refine zj_icmp_ge 10 34 X dX1_pointsIn_7 (by decide) rfl (fun c3 => absurd c3 (zge (N := 32) (by rfl) (by omega) (by decide))) (fun _ => ?_)
      refine zj_lload_n 11 X 0 dX1_pointsIn_10 rfl rfl ?_
      refine zj_iload_n 12 X 2 dX1_pointsIn_11 rfl rfl ?_
      refine zc_l 15 (zr_S (As := [.int (nI i)]) (rest := [.long (p0)]) X (zc_X1_setOf (l := l) (p0 := nI i)) zw_X1_25 zn_X1_setOf (zcR_of rfl) zs0 rfl (Nat.le_of_ble_eq_true rfl) dX1_pointsIn_12) rfl ?_
      refine zj_land 16 X dX1_pointsIn_15 rfl ?_
      refine zj_lconst 17 X (v := 0) dX1_pointsIn_16 (by decide) rfl ?_
      refine zj_lcmp 18 X dX1_pointsIn_17 rfl ?_
      refine zj_if_eq 21 28 X dX1_pointsIn_18 (by decide) rfl (fun c4 => ?_) (fun c4 => ?_)
      · rw [if_pos c4] at hv
        refine zj_iinc 31 X (v := nI (i + 1)) (lv1 := [(0, .long (p0)), (2, .int (x2)), (3, .int (nI (i + 1)))]) 2 [1, 2, 0] dX1_pointsIn_28 rfl (zinc _) (by decide) rfl rfl ?_
        refine zj_goto 4 X dX1_pointsIn_31 (by decide) ?_
        exact ih (i + 1) x2 (by omega)  hv
      · rw [if_neg c4] at hv
        refine zj_iload_n 22 X 1 dX1_pointsIn_21 rfl rfl ?_
        refine zj_iload_n 23 X 2 dX1_pointsIn_22 rfl rfl ?_
        refine zc_i 26 (zr_S (As := [.int (nI i)]) (rest := [.int (x2)]) X (zc_X1_pointsOf (l := l) (p0 := nI i)) zw_X1_29 zn_X1_pointsOf (zcR_of rfl) zs0 rfl (Nat.le_of_ble_eq_true rfl) dX1_pointsIn_23) rfl ?_
        refine zj_iadd 27 X dX1_pointsIn_26 rfl ?_
        refine zj_istore_n 28 X (lv1 := [(0, .long (p0)), (2, .int (x2 + (zf_X1_pointsOf (nI i)))), (3, .int (nI i))]) [1, 0, 2] dX1_pointsIn_27 (by decide) rfl rfl ?_
        refine zj_iinc 31 X (v := nI (i + 1)) (lv1 := [(0, .long (p0)), (2, .int (x2 + (zf_X1_pointsOf (nI i)))), (3, .int (nI (i + 1)))]) 2 [1, 2, 0] dX1_pointsIn_28 rfl (zinc _) (by decide) rfl rfl ?_
        refine zj_goto 4 X dX1_pointsIn_31 (by decide) ?_
        exact ih (i + 1) (x2 + (zf_X1_pointsOf (nI i))) (by omega)  hv
  exact L1 32 0 0 (by decide)  hv
def zf_X1_colourOf (p0 : Int32) (p1 : Int32) : Int64 := if (lg_cmp ((zf_X1_trumps p1) &&& (zf_X1_setOf p0)) 0) = 0 then (zf_X1_suit (p0 / 8)) &&& ((zf_X1_trumps p1) ^^^ (-1)) else zf_X1_trumps p1
abbrev zR_X1_colourOf : Room := { frames := 2, cells := 0, slots := 0, locals := 40 }
set_option maxHeartbeats 4000000 in
set_option maxRecDepth 100000 in
theorem zc_X1_colourOf {l : Launch} {D : va_G} {C : ClassId × ClassId} {p0 : Int32} {p1 : Int32} : zk_Mp l yX1_colourOf cX1_colourOf 4 (some .long) zR_X1_colourOf [.int (p0), .int (p1)] [] D C (vp_Sl (fun r => r = zf_X1_colourOf p0 p1)) := by
  refine zk_mp (by decide) (Nat.le_of_ble_eq_true rfl) ?_
  intro p e s m below meth c X Y
  generalize hv : zf_X1_colourOf p0 p1 = V
  unfold zf_X1_colourOf at hv
  show zJ _ _ _ _ _ _ _ _ _ _ _ _ _ _ _ _ _ 0 [(0, .int (p0)), (1, .int (p1))] []
  refine zj_iload_n 1 X 1 dX1_colourOf_0 rfl rfl ?_
  refine zc_l 4 (zr_S (As := [.int (p1)]) (rest := []) X (zc_X1_trumps (l := l) (p0 := p1)) zw_X1_37 zn_X1_trumps (zcR_of rfl) zs0 rfl (Nat.le_of_ble_eq_true rfl) dX1_colourOf_1) rfl ?_
  refine zj_lstore_n 5 X (lv1 := [(0, .int (p0)), (1, .int (p1)), (2, .long (zf_X1_trumps p1))]) [1, 2, 0] dX1_colourOf_4 (by decide) rfl rfl ?_
  refine zj_lload_n 6 X 2 dX1_colourOf_5 rfl rfl ?_
  refine zj_iload_n 7 X 0 dX1_colourOf_6 rfl rfl ?_
  refine zc_l 10 (zr_S (As := [.int (p0)]) (rest := [.long (zf_X1_trumps p1)]) X (zc_X1_setOf (l := l) (p0 := p0)) zw_X1_25 zn_X1_setOf (zcR_of rfl) zs0 rfl (Nat.le_of_ble_eq_true rfl) dX1_colourOf_7) rfl ?_
  refine zj_land 11 X dX1_colourOf_10 rfl ?_
  refine zj_lconst 12 X (v := 0) dX1_colourOf_11 (by decide) rfl ?_
  refine zj_lcmp 13 X dX1_colourOf_12 rfl ?_
  refine zj_if_eq 16 20 X dX1_colourOf_13 (by decide) rfl (fun c1 => ?_) (fun c1 => ?_)
  · rw [if_pos c1] at hv
    refine zj_iload_n 21 X 0 dX1_colourOf_20 rfl rfl ?_
    refine zj_bipush 23 X (v := 8) dX1_colourOf_21 (by decide) rfl ?_
    refine zj_idiv 24 X dX1_colourOf_23 (by decide) rfl ?_
    refine zc_l 27 (zr_S (As := [.int (p0 / 8)]) (rest := []) X (zc_X1_suit (l := l) (p0 := p0 / 8)) zw_X1_34 zn_X1_suit (zcR_of rfl) zs0 rfl (Nat.le_of_ble_eq_true rfl) dX1_colourOf_24) rfl ?_
    refine zj_lload_n 28 X 2 dX1_colourOf_27 rfl rfl ?_
    refine zj_ldc2 31 X (v := (-1)) (zG_t 383 (by decide +kernel) rfl) dX1_colourOf_28 rfl ?_
    refine zj_lxor 32 X dX1_colourOf_31 rfl ?_
    refine zj_land 33 X dX1_colourOf_32 rfl ?_
    exact ze_l X Y hv dX1_colourOf_33
  · rw [if_neg c1] at hv
    refine zj_lload_n 17 X 2 dX1_colourOf_16 rfl rfl ?_
    refine zj_goto 33 X dX1_colourOf_17 (by decide) ?_
    exact ze_l X Y hv dX1_colourOf_33
def zf_X1_strength (p0 : Int32) (p1 : Int32) (p2 : Int32) : Int32 := if (lg_cmp ((zf_X1_trumps p2) &&& (zf_X1_setOf p0)) 0) = 0 then (if (lg_cmp ((zf_X1_colourOf p1 p2) &&& (zf_X1_setOf p0)) 0) = 0 then 0 else (if p2 = 5 then 1 + (zf_X1_ofRank zk_ord (zf_X1_rankOf p0)) else 1 + (zf_X1_rankOf p0))) else (if (zf_X1_rankOf p0) = 7 then 200 + (p0 / 8) else 100 + (zf_X1_rankOf p0))
abbrev zR_X1_strength : Room := { frames := 3, cells := 0, slots := 0, locals := 63 }
set_option maxHeartbeats 4000000 in
set_option maxRecDepth 100000 in
theorem zc_X1_strength {l : Launch} {D : va_G} {C : ClassId × ClassId} {p0 : Int32} {p1 : Int32} {p2 : Int32} : zk_Mp l yX1_strength cX1_strength 3 (some .int) zR_X1_strength [.int (p0), .int (p1), .int (p2)] [] D C (vp_Si (fun r => r = zf_X1_strength p0 p1 p2)) := by
  refine zk_mp (by decide) (Nat.le_of_ble_eq_true rfl) ?_
  intro p e s m below meth c X Y
  generalize hv : zf_X1_strength p0 p1 p2 = V
  unfold zf_X1_strength at hv
  show zJ _ _ _ _ _ _ _ _ _ _ _ _ _ _ _ _ _ 0 [(0, .int (p0)), (1, .int (p1)), (2, .int (p2))] []
  refine zj_iload_n 1 X 2 dX1_strength_0 rfl rfl ?_
  refine zc_l 4 (zr_S (As := [.int (p2)]) (rest := []) X (zc_X1_trumps (l := l) (p0 := p2)) zw_X1_37 zn_X1_trumps (zcR_of rfl) zs0 rfl (Nat.le_of_ble_eq_true rfl) dX1_strength_1) rfl ?_
  refine zj_iload_n 5 X 0 dX1_strength_4 rfl rfl ?_
  refine zc_l 8 (zr_S (As := [.int (p0)]) (rest := [.long (zf_X1_trumps p2)]) X (zc_X1_setOf (l := l) (p0 := p0)) zw_X1_25 zn_X1_setOf (zcR_of rfl) zs0 rfl (Nat.le_of_ble_eq_true rfl) dX1_strength_5) rfl ?_
  refine zj_land 9 X dX1_strength_8 rfl ?_
  refine zj_lconst 10 X (v := 0) dX1_strength_9 (by decide) rfl ?_
  refine zj_lcmp 11 X dX1_strength_10 rfl ?_
  refine zj_if_eq 14 42 X dX1_strength_11 (by decide) rfl (fun c1 => ?_) (fun c1 => ?_)
  · rw [if_pos c1] at hv
    refine zj_iload_n 43 X 1 dX1_strength_42 rfl rfl ?_
    refine zj_iload_n 44 X 2 dX1_strength_43 rfl rfl ?_
    refine zc_l 47 (zr_S (As := [.int (p1), .int (p2)]) (rest := []) X (zc_X1_colourOf (l := l) (p0 := p1) (p1 := p2)) zw_X1_42 zn_X1_colourOf (zcR_of rfl) zs0 rfl (Nat.le_of_ble_eq_true rfl) dX1_strength_44) rfl ?_
    refine zj_iload_n 48 X 0 dX1_strength_47 rfl rfl ?_
    refine zc_l 51 (zr_S (As := [.int (p0)]) (rest := [.long (zf_X1_colourOf p1 p2)]) X (zc_X1_setOf (l := l) (p0 := p0)) zw_X1_25 zn_X1_setOf (zcR_of rfl) zs0 rfl (Nat.le_of_ble_eq_true rfl) dX1_strength_48) rfl ?_
    refine zj_land 52 X dX1_strength_51 rfl ?_
    refine zj_lconst 53 X (v := 0) dX1_strength_52 (by decide) rfl ?_
    refine zj_lcmp 54 X dX1_strength_53 rfl ?_
    refine zj_if_ne 57 59 X dX1_strength_54 (by decide) rfl (fun c2 => ?_) (fun c2 => ?_)
    · rw [if_neg c2] at hv
      refine zj_iconst 60 X (v := 1) dX1_strength_59 (by decide) rfl ?_
      refine zj_iload_n 61 X 2 dX1_strength_60 rfl rfl ?_
      refine zj_iconst 62 X (v := 5) dX1_strength_61 (by decide) rfl ?_
      refine zj_icmp_ne 65 78 X dX1_strength_62 (by decide) rfl (fun c3 => ?_) (fun c3 => ?_)
      · rw [if_neg c3] at hv
        refine zj_iload_n 79 X 0 dX1_strength_78 rfl rfl ?_
        refine zc_i 82 (zr_S (As := [.int (p0)]) (rest := [.int (1)]) X (zc_X1_rankOf (l := l) (p0 := p0)) zw_X1_17 zn_X1_rankOf (zcR_of rfl) zs0 rfl (Nat.le_of_ble_eq_true rfl) dX1_strength_79) rfl ?_
        refine zj_iadd 83 X dX1_strength_82 rfl ?_
        exact ze_i X Y hv dX1_strength_83
      · rw [if_pos c3] at hv
        refine zq_ORDER_IN_NULL 68 X dX1_strength_65 rfl (fun t4 hT5 => ?_)
        refine zj_iload_n 69 X 0 dX1_strength_68 rfl rfl ?_
        refine zc_i 72 (zr_S (As := [.int (p0)]) (rest := [.ref (t4), .int (1)]) X (zc_X1_rankOf (l := l) (p0 := p0)) zw_X1_17 zn_X1_rankOf (zcR_of rfl) zs0 rfl (Nat.le_of_ble_eq_true rfl) dX1_strength_69) rfl ?_
        refine zc_i 75 (zr_Sq (As := [.ref (t4), .int (zf_X1_rankOf p0)]) (rest := [.int (1)]) X (zc_X1_ofRank (l := l) (t := t4) (f := zk_ord) (p0 := zf_X1_rankOf p0)) zw_X1_21 zn_X1_ofRank (zcR_of rfl) hT5 zs0 rfl (Nat.le_of_ble_eq_true rfl) dX1_strength_72) rfl ?_
        refine zj_goto 82 X dX1_strength_75 (by decide) ?_
        refine zj_iadd 83 X dX1_strength_82 rfl ?_
        exact ze_i X Y hv dX1_strength_83
    · rw [if_pos c2] at hv
      refine zj_iconst 58 X (v := 0) dX1_strength_57 (by decide) rfl ?_
      exact ze_i X Y hv dX1_strength_58
  · rw [if_neg c1] at hv
    refine zj_iload_n 15 X 0 dX1_strength_14 rfl rfl ?_
    refine zc_i 18 (zr_S (As := [.int (p0)]) (rest := []) X (zc_X1_rankOf (l := l) (p0 := p0)) zw_X1_17 zn_X1_rankOf (zcR_of rfl) zs0 rfl (Nat.le_of_ble_eq_true rfl) dX1_strength_15) rfl ?_
    refine zj_bipush 20 X (v := 7) dX1_strength_18 (by decide) rfl ?_
    refine zj_icmp_ne 23 34 X dX1_strength_20 (by decide) rfl (fun c6 => ?_) (fun c6 => ?_)
    · rw [if_neg c6] at hv
      refine zj_bipush 36 X (v := 100) dX1_strength_34 (by decide) rfl ?_
      refine zj_iload_n 37 X 0 dX1_strength_36 rfl rfl ?_
      refine zc_i 40 (zr_S (As := [.int (p0)]) (rest := [.int (100)]) X (zc_X1_rankOf (l := l) (p0 := p0)) zw_X1_17 zn_X1_rankOf (zcR_of rfl) zs0 rfl (Nat.le_of_ble_eq_true rfl) dX1_strength_37) rfl ?_
      refine zj_iadd 41 X dX1_strength_40 rfl ?_
      exact ze_i X Y hv dX1_strength_41
    · rw [if_pos c6] at hv
      refine zj_sipush 26 X (v := 200) dX1_strength_23 (by decide) rfl ?_
      refine zj_iload_n 27 X 0 dX1_strength_26 rfl rfl ?_
      refine zj_bipush 29 X (v := 8) dX1_strength_27 (by decide) rfl ?_
      refine zj_idiv 30 X dX1_strength_29 (by decide) rfl ?_
      refine zj_iadd 31 X dX1_strength_30 rfl ?_
      refine zj_goto 41 X dX1_strength_31 (by decide) ?_
      exact ze_i X Y hv dX1_strength_41
def zf_X1_trumpFromTop (p0 : Int32) (p1 : Int32) : Int32 := if 4 ≤ p0 then ((p1 * 8) + 10) - p0 else ((3 - p0) * 8) + 7
abbrev zR_X1_trumpFromTop : Room := { frames := 0, cells := 0, slots := 0, locals := 0 }
set_option maxHeartbeats 4000000 in
set_option maxRecDepth 100000 in
theorem zc_X1_trumpFromTop {l : Launch} {D : va_G} {C : ClassId × ClassId} {p0 : Int32} {p1 : Int32} : zk_Mp l yX1_trumpFromTop cX1_trumpFromTop 2 (some .int) zR_X1_trumpFromTop [.int (p0), .int (p1)] [] D C (vp_Si (fun r => r = zf_X1_trumpFromTop p0 p1)) := by
  refine zk_mp (by decide) (Nat.le_of_ble_eq_true rfl) ?_
  intro p e s m below meth c X Y
  generalize hv : zf_X1_trumpFromTop p0 p1 = V
  unfold zf_X1_trumpFromTop at hv
  show zJ _ _ _ _ _ _ _ _ _ _ _ _ _ _ _ _ _ 0 [(0, .int (p0)), (1, .int (p1))] []
  refine zj_iload_n 1 X 0 dX1_trumpFromTop_0 rfl rfl ?_
  refine zj_iconst 2 X (v := 4) dX1_trumpFromTop_1 (by decide) rfl ?_
  refine zj_icmp_ge 5 17 X dX1_trumpFromTop_2 (by decide) rfl (fun c1 => ?_) (fun c1 => ?_)
  · rw [if_pos c1] at hv
    refine zj_iload_n 18 X 1 dX1_trumpFromTop_17 rfl rfl ?_
    refine zj_bipush 20 X (v := 8) dX1_trumpFromTop_18 (by decide) rfl ?_
    refine zj_imul 21 X dX1_trumpFromTop_20 rfl ?_
    refine zj_bipush 23 X (v := 10) dX1_trumpFromTop_21 (by decide) rfl ?_
    refine zj_iadd 24 X dX1_trumpFromTop_23 rfl ?_
    refine zj_iload_n 25 X 0 dX1_trumpFromTop_24 rfl rfl ?_
    refine zj_isub 26 X dX1_trumpFromTop_25 rfl ?_
    exact ze_i X Y hv dX1_trumpFromTop_26
  · rw [if_neg c1] at hv
    refine zj_iconst 6 X (v := 3) dX1_trumpFromTop_5 (by decide) rfl ?_
    refine zj_iload_n 7 X 0 dX1_trumpFromTop_6 rfl rfl ?_
    refine zj_isub 8 X dX1_trumpFromTop_7 rfl ?_
    refine zj_bipush 10 X (v := 8) dX1_trumpFromTop_8 (by decide) rfl ?_
    refine zj_imul 11 X dX1_trumpFromTop_10 rfl ?_
    refine zj_bipush 13 X (v := 7) dX1_trumpFromTop_11 (by decide) rfl ?_
    refine zj_iadd 14 X dX1_trumpFromTop_13 rfl ?_
    refine zj_goto 26 X dX1_trumpFromTop_14 (by decide) ?_
    exact ze_i X Y hv dX1_trumpFromTop_26
