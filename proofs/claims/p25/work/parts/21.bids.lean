def zl_X1_runOfTrumps_lp11 (p0 : Int64) (p1 : Int32) : Nat → Nat → Int32
  | 0, i => if (if (lg_cmp (p0 &&& (zf_X1_setOf (zf_X1_trumpFromTop 0 p1))) 0) = 0 then (0 : Int32) else 1) = 0 then -(nI i) else nI i
  | k + 1, i => if (if (lg_cmp (p0 &&& (zf_X1_setOf (zf_X1_trumpFromTop 0 p1))) 0) = 0 then (0 : Int32) else 1) = (if (lg_cmp (p0 &&& (zf_X1_setOf (zf_X1_trumpFromTop (nI i) p1))) 0) = 0 then (0 : Int32) else 1) then zl_X1_runOfTrumps_lp11 p0 p1 k (i + 1) else (if (if (lg_cmp (p0 &&& (zf_X1_setOf (zf_X1_trumpFromTop 0 p1))) 0) = 0 then (0 : Int32) else 1) = 0 then -(nI i) else nI i)
def zl_X1_runOfTrumps_lp4 (p0 : Int64) (p1 : Int32) : Nat → Nat → Int32
  | 0, i => if (if (lg_cmp (p0 &&& (zf_X1_setOf (zf_X1_trumpFromTop 0 p1))) 0) = 0 then (0 : Int32) else 1) = 0 then -(nI i) else nI i
  | k + 1, i => if (if (lg_cmp (p0 &&& (zf_X1_setOf (zf_X1_trumpFromTop 0 p1))) 0) = 0 then (0 : Int32) else 1) = (if (lg_cmp (p0 &&& (zf_X1_setOf (zf_X1_trumpFromTop (nI i) p1))) 0) = 0 then (0 : Int32) else 1) then zl_X1_runOfTrumps_lp4 p0 p1 k (i + 1) else (if (if (lg_cmp (p0 &&& (zf_X1_setOf (zf_X1_trumpFromTop 0 p1))) 0) = 0 then (0 : Int32) else 1) = 0 then -(nI i) else nI i)
def zf_X1_runOfTrumps (p0 : Int64) (p1 : Int32) : Int32 := if p1 = 4 then zl_X1_runOfTrumps_lp4 p0 p1 3 1 else zl_X1_runOfTrumps_lp11 p0 p1 10 1
abbrev zR_X1_runOfTrumps : Room := { frames := 1, cells := 0, slots := 0, locals := 21 }
set_option maxHeartbeats 4000000 in
set_option maxRecDepth 100000 in
theorem zc_X1_runOfTrumps {l : Launch} {D : va_G} {C : ClassId × ClassId} {p0 : Int64} {p1 : Int32} : zk_Mp l yX1_runOfTrumps cX1_runOfTrumps 6 (some .int) zR_X1_runOfTrumps [.long (p0), .int (p1)] [] D C (vp_Si (fun r => r = zf_X1_runOfTrumps p0 p1)) := by
  refine zk_mp (by decide) (Nat.le_of_ble_eq_true rfl) ?_
  intro p e s m below meth c X Y
  generalize hv : zf_X1_runOfTrumps p0 p1 = V
  unfold zf_X1_runOfTrumps at hv
  show zJ _ _ _ _ _ _ _ _ _ _ _ _ _ _ _ _ _ 0 [(0, .long (p0)), (2, .int (p1))] []
  refine zj_iload_n 1 X 1 dX1_runOfTrumps_0 rfl rfl ?_
  refine zj_iconst 2 X (v := 4) dX1_runOfTrumps_1 (by decide) rfl ?_
  refine zj_icmp_ne 5 9 X dX1_runOfTrumps_2 (by decide) rfl (fun c1 => ?_) (fun c1 => ?_)
  · rw [if_neg c1] at hv
    refine zj_bipush 11 X (v := 11) dX1_runOfTrumps_9 (by decide) rfl ?_
    refine zj_istore_n 12 X (lv1 := [(0, .long (p0)), (2, .int (p1)), (3, .int (11))]) [1, 2, 0] dX1_runOfTrumps_11 (by decide) rfl rfl ?_
    refine zj_lload_n 13 X 0 dX1_runOfTrumps_12 rfl rfl ?_
    refine zj_iconst 14 X (v := 0) dX1_runOfTrumps_13 (by decide) rfl ?_
    refine zj_iload_n 15 X 1 dX1_runOfTrumps_14 rfl rfl ?_
    refine zc_i 18 (zr_S (As := [.int (0), .int (p1)]) (rest := [.long (p0)]) X (zc_X1_trumpFromTop (l := l) (p0 := 0) (p1 := p1)) zw_X1_49 zn_X1_trumpFromTop (zcR_of rfl) zs0 rfl (Nat.le_of_ble_eq_true rfl) dX1_runOfTrumps_15) rfl ?_
    refine zc_l 21 (zr_S (As := [.int (zf_X1_trumpFromTop 0 p1)]) (rest := [.long (p0)]) X (zc_X1_setOf (l := l) (p0 := zf_X1_trumpFromTop 0 p1)) zw_X1_25 zn_X1_setOf (zcR_of rfl) zs0 rfl (Nat.le_of_ble_eq_true rfl) dX1_runOfTrumps_18) rfl ?_
    refine zj_land 22 X dX1_runOfTrumps_21 rfl ?_
    refine zj_lconst 23 X (v := 0) dX1_runOfTrumps_22 (by decide) rfl ?_
    refine zj_lcmp 24 X dX1_runOfTrumps_23 rfl ?_
    refine zj_join 32 [(0, .long (p0)), (2, .int (p1)), (3, .int (11))] [.int (if (lg_cmp (p0 &&& (zf_X1_setOf (zf_X1_trumpFromTop 0 p1))) 0) = 0 then (0 : Int32) else 1)] ?_ (fun J3 => ?_)
    · refine zj_istore 34 X (lv1 := [(0, .long (p0)), (2, .int (p1)), (3, .int (11)), (4, .int (if (lg_cmp (p0 &&& (zf_X1_setOf (zf_X1_trumpFromTop 0 p1))) 0) = 0 then (0 : Int32) else 1))]) [1, 2, 3, 0] dX1_runOfTrumps_32 (by decide) rfl rfl ?_
      refine zj_iconst 35 X (v := 1) dX1_runOfTrumps_34 (by decide) rfl ?_
      refine zj_istore 37 X (lv1 := [(0, .long (p0)), (2, .int (p1)), (3, .int (11)), (4, .int (if (lg_cmp (p0 &&& (zf_X1_setOf (zf_X1_trumpFromTop 0 p1))) 0) = 0 then (0 : Int32) else 1)), (5, .int (1))]) [1, 2, 3, 4, 0] dX1_runOfTrumps_35 (by decide) rfl rfl ?_
      have L4 : ∀ (k i : Nat) , i + k = 11 → zl_X1_runOfTrumps_lp11 p0 p1 k i = V → zJ p l e zR_X1_runOfTrumps s m ([.long (p0), .int (p1)] : List Value).toArray below meth c 0 0 (MQ below (vp_Si (fun r => r = V)) ([.long (p0), .int (p1)] : List Value).toArray s 0 0 (fun _ => False)) D (zk_K0 s) 6 [] 37 [(0, .long (p0)), (2, .int (p1)), (3, .int (11)), (4, .int (if (lg_cmp (p0 &&& (zf_X1_setOf (zf_X1_trumpFromTop 0 p1))) 0) = 0 then (0 : Int32) else 1)), (5, .int (nI i))] [] := by
        intro k
        induction k with
        | zero =>
          intro i h1 hv
          rw [zl_X1_runOfTrumps_lp11] at hv
          refine zj_iload 39 X 4 dX1_runOfTrumps_37 rfl rfl ?_
          refine zj_iload_n 40 X 2 dX1_runOfTrumps_39 rfl rfl ?_
          refine zj_icmp_ge 43 75 X dX1_runOfTrumps_40 (by decide) rfl (fun _ => ?_) (fun c5 => absurd (zge0 (N := 11) (by rfl) (by omega)) c5)
          refine zj_iload 77 X 3 dX1_runOfTrumps_75 rfl rfl ?_
          refine zj_if_eq 80 85 X dX1_runOfTrumps_77 (by decide) rfl (fun c6 => ?_) (fun c6 => ?_)
          · rw [if_pos c6] at hv
            refine zj_iload 87 X 4 dX1_runOfTrumps_85 rfl rfl ?_
            refine zj_ineg 88 X dX1_runOfTrumps_87 rfl ?_
            exact ze_i X Y hv dX1_runOfTrumps_88
          · rw [if_neg c6] at hv
            refine zj_iload 82 X 4 dX1_runOfTrumps_80 rfl rfl ?_
            refine zj_goto 88 X dX1_runOfTrumps_82 (by decide) ?_
            exact ze_i X Y hv dX1_runOfTrumps_88
        | succ k ih =>
          intro i h1 hv
          rw [zl_X1_runOfTrumps_lp11] at hv
          refine zj_iload 39 X 4 dX1_runOfTrumps_37 rfl rfl ?_
          refine zj_iload_n 40 X 2 dX1_runOfTrumps_39 rfl rfl ?_
          refine zj_icmp_ge 43 75 X dX1_runOfTrumps_40 (by decide) rfl (fun c7 => absurd c7 (zge (N := 11) (by rfl) (by omega) (by decide))) (fun _ => ?_)
          refine zj_iload 45 X 3 dX1_runOfTrumps_43 rfl rfl ?_
          refine zj_lload_n 46 X 0 dX1_runOfTrumps_45 rfl rfl ?_
          refine zj_iload 48 X 4 dX1_runOfTrumps_46 rfl rfl ?_
          refine zj_iload_n 49 X 1 dX1_runOfTrumps_48 rfl rfl ?_
          refine zc_i 52 (zr_S (As := [.int (nI i), .int (p1)]) (rest := [.long (p0), .int (if (lg_cmp (p0 &&& (zf_X1_setOf (zf_X1_trumpFromTop 0 p1))) 0) = 0 then (0 : Int32) else 1)]) X (zc_X1_trumpFromTop (l := l) (p0 := nI i) (p1 := p1)) zw_X1_49 zn_X1_trumpFromTop (zcR_of rfl) zs0 rfl (Nat.le_of_ble_eq_true rfl) dX1_runOfTrumps_49) rfl ?_
          refine zc_l 55 (zr_S (As := [.int (zf_X1_trumpFromTop (nI i) p1)]) (rest := [.long (p0), .int (if (lg_cmp (p0 &&& (zf_X1_setOf (zf_X1_trumpFromTop 0 p1))) 0) = 0 then (0 : Int32) else 1)]) X (zc_X1_setOf (l := l) (p0 := zf_X1_trumpFromTop (nI i) p1)) zw_X1_25 zn_X1_setOf (zcR_of rfl) zs0 rfl (Nat.le_of_ble_eq_true rfl) dX1_runOfTrumps_52) rfl ?_
          refine zj_land 56 X dX1_runOfTrumps_55 rfl ?_
          refine zj_lconst 57 X (v := 0) dX1_runOfTrumps_56 (by decide) rfl ?_
          refine zj_lcmp 58 X dX1_runOfTrumps_57 rfl ?_
          refine zj_join 66 [(0, .long (p0)), (2, .int (p1)), (3, .int (11)), (4, .int (if (lg_cmp (p0 &&& (zf_X1_setOf (zf_X1_trumpFromTop 0 p1))) 0) = 0 then (0 : Int32) else 1)), (5, .int (nI i))] [.int (if (lg_cmp (p0 &&& (zf_X1_setOf (zf_X1_trumpFromTop (nI i) p1))) 0) = 0 then (0 : Int32) else 1), .int (if (lg_cmp (p0 &&& (zf_X1_setOf (zf_X1_trumpFromTop 0 p1))) 0) = 0 then (0 : Int32) else 1)] ?_ (fun J9 => ?_)
          · refine zj_icmp_ne 69 75 X dX1_runOfTrumps_66 (by decide) rfl (fun c10 => ?_) (fun c10 => ?_)
            · rw [if_neg c10] at hv
              refine zj_iload 77 X 3 dX1_runOfTrumps_75 rfl rfl ?_
              refine zj_if_eq 80 85 X dX1_runOfTrumps_77 (by decide) rfl (fun c11 => ?_) (fun c11 => ?_)
              · rw [if_pos c11] at hv
                refine zj_iload 87 X 4 dX1_runOfTrumps_85 rfl rfl ?_
                refine zj_ineg 88 X dX1_runOfTrumps_87 rfl ?_
                exact ze_i X Y hv dX1_runOfTrumps_88
              · rw [if_neg c11] at hv
                refine zj_iload 82 X 4 dX1_runOfTrumps_80 rfl rfl ?_
                refine zj_goto 88 X dX1_runOfTrumps_82 (by decide) ?_
                exact ze_i X Y hv dX1_runOfTrumps_88
            · rw [if_pos c10] at hv
              refine zj_iinc 72 X (v := nI (i + 1)) (lv1 := [(0, .long (p0)), (2, .int (p1)), (3, .int (11)), (4, .int (if (lg_cmp (p0 &&& (zf_X1_setOf (zf_X1_trumpFromTop 0 p1))) 0) = 0 then (0 : Int32) else 1)), (5, .int (nI (i + 1)))]) 4 [1, 2, 3, 4, 0] dX1_runOfTrumps_69 rfl (zinc _) (by decide) rfl rfl ?_
              refine zj_goto 37 X dX1_runOfTrumps_72 (by decide) ?_
              exact ih (i + 1)  (by omega)  hv
          · refine zj_if_eq 61 65 X dX1_runOfTrumps_58 (by decide) rfl (fun c12 => ?_) (fun c12 => ?_)
            · refine zj_iconst 66 X (v := 0) dX1_runOfTrumps_65 (by decide) rfl ?_
              simpa only [if_pos c12] using J9
            · refine zj_iconst 62 X (v := 1) dX1_runOfTrumps_61 (by decide) rfl ?_
              refine zj_goto 66 X dX1_runOfTrumps_62 (by decide) ?_
              simpa only [if_neg c12] using J9
      exact L4 10 1 (by decide)  hv
    · refine zj_if_eq 27 31 X dX1_runOfTrumps_24 (by decide) rfl (fun c13 => ?_) (fun c13 => ?_)
      · refine zj_iconst 32 X (v := 0) dX1_runOfTrumps_31 (by decide) rfl ?_
        simpa only [if_pos c13] using J3
      · refine zj_iconst 28 X (v := 1) dX1_runOfTrumps_27 (by decide) rfl ?_
        refine zj_goto 32 X dX1_runOfTrumps_28 (by decide) ?_
        simpa only [if_neg c13] using J3
  · rw [if_pos c1] at hv
    refine zj_iconst 6 X (v := 4) dX1_runOfTrumps_5 (by decide) rfl ?_
    refine zj_goto 11 X dX1_runOfTrumps_6 (by decide) ?_
    refine zj_istore_n 12 X (lv1 := [(0, .long (p0)), (2, .int (p1)), (3, .int (4))]) [1, 2, 0] dX1_runOfTrumps_11 (by decide) rfl rfl ?_
    refine zj_lload_n 13 X 0 dX1_runOfTrumps_12 rfl rfl ?_
    refine zj_iconst 14 X (v := 0) dX1_runOfTrumps_13 (by decide) rfl ?_
    refine zj_iload_n 15 X 1 dX1_runOfTrumps_14 rfl rfl ?_
    refine zc_i 18 (zr_S (As := [.int (0), .int (p1)]) (rest := [.long (p0)]) X (zc_X1_trumpFromTop (l := l) (p0 := 0) (p1 := p1)) zw_X1_49 zn_X1_trumpFromTop (zcR_of rfl) zs0 rfl (Nat.le_of_ble_eq_true rfl) dX1_runOfTrumps_15) rfl ?_
    refine zc_l 21 (zr_S (As := [.int (zf_X1_trumpFromTop 0 p1)]) (rest := [.long (p0)]) X (zc_X1_setOf (l := l) (p0 := zf_X1_trumpFromTop 0 p1)) zw_X1_25 zn_X1_setOf (zcR_of rfl) zs0 rfl (Nat.le_of_ble_eq_true rfl) dX1_runOfTrumps_18) rfl ?_
    refine zj_land 22 X dX1_runOfTrumps_21 rfl ?_
    refine zj_lconst 23 X (v := 0) dX1_runOfTrumps_22 (by decide) rfl ?_
    refine zj_lcmp 24 X dX1_runOfTrumps_23 rfl ?_
    refine zj_join 32 [(0, .long (p0)), (2, .int (p1)), (3, .int (4))] [.int (if (lg_cmp (p0 &&& (zf_X1_setOf (zf_X1_trumpFromTop 0 p1))) 0) = 0 then (0 : Int32) else 1)] ?_ (fun J15 => ?_)
    · refine zj_istore 34 X (lv1 := [(0, .long (p0)), (2, .int (p1)), (3, .int (4)), (4, .int (if (lg_cmp (p0 &&& (zf_X1_setOf (zf_X1_trumpFromTop 0 p1))) 0) = 0 then (0 : Int32) else 1))]) [1, 2, 3, 0] dX1_runOfTrumps_32 (by decide) rfl rfl ?_
      refine zj_iconst 35 X (v := 1) dX1_runOfTrumps_34 (by decide) rfl ?_
      refine zj_istore 37 X (lv1 := [(0, .long (p0)), (2, .int (p1)), (3, .int (4)), (4, .int (if (lg_cmp (p0 &&& (zf_X1_setOf (zf_X1_trumpFromTop 0 p1))) 0) = 0 then (0 : Int32) else 1)), (5, .int (1))]) [1, 2, 3, 4, 0] dX1_runOfTrumps_35 (by decide) rfl rfl ?_
      have L16 : ∀ (k i : Nat) , i + k = 4 → zl_X1_runOfTrumps_lp4 p0 p1 k i = V → zJ p l e zR_X1_runOfTrumps s m ([.long (p0), .int (p1)] : List Value).toArray below meth c 0 0 (MQ below (vp_Si (fun r => r = V)) ([.long (p0), .int (p1)] : List Value).toArray s 0 0 (fun _ => False)) D (zk_K0 s) 6 [] 37 [(0, .long (p0)), (2, .int (p1)), (3, .int (4)), (4, .int (if (lg_cmp (p0 &&& (zf_X1_setOf (zf_X1_trumpFromTop 0 p1))) 0) = 0 then (0 : Int32) else 1)), (5, .int (nI i))] [] := by
        intro k
        induction k with
        | zero =>
          intro i h1 hv
          rw [zl_X1_runOfTrumps_lp4] at hv
          refine zj_iload 39 X 4 dX1_runOfTrumps_37 rfl rfl ?_
          refine zj_iload_n 40 X 2 dX1_runOfTrumps_39 rfl rfl ?_
          refine zj_icmp_ge 43 75 X dX1_runOfTrumps_40 (by decide) rfl (fun _ => ?_) (fun c17 => absurd (zge0 (N := 4) (by rfl) (by omega)) c17)
          refine zj_iload 77 X 3 dX1_runOfTrumps_75 rfl rfl ?_
          refine zj_if_eq 80 85 X dX1_runOfTrumps_77 (by decide) rfl (fun c18 => ?_) (fun c18 => ?_)
          · rw [if_pos c18] at hv
            refine zj_iload 87 X 4 dX1_runOfTrumps_85 rfl rfl ?_
            refine zj_ineg 88 X dX1_runOfTrumps_87 rfl ?_
            exact ze_i X Y hv dX1_runOfTrumps_88
          · rw [if_neg c18] at hv
            refine zj_iload 82 X 4 dX1_runOfTrumps_80 rfl rfl ?_
            refine zj_goto 88 X dX1_runOfTrumps_82 (by decide) ?_
            exact ze_i X Y hv dX1_runOfTrumps_88
        | succ k ih =>
          intro i h1 hv
          rw [zl_X1_runOfTrumps_lp4] at hv
          refine zj_iload 39 X 4 dX1_runOfTrumps_37 rfl rfl ?_
          refine zj_iload_n 40 X 2 dX1_runOfTrumps_39 rfl rfl ?_
          refine zj_icmp_ge 43 75 X dX1_runOfTrumps_40 (by decide) rfl (fun c19 => absurd c19 (zge (N := 4) (by rfl) (by omega) (by decide))) (fun _ => ?_)
          refine zj_iload 45 X 3 dX1_runOfTrumps_43 rfl rfl ?_
          refine zj_lload_n 46 X 0 dX1_runOfTrumps_45 rfl rfl ?_
          refine zj_iload 48 X 4 dX1_runOfTrumps_46 rfl rfl ?_
          refine zj_iload_n 49 X 1 dX1_runOfTrumps_48 rfl rfl ?_
          refine zc_i 52 (zr_S (As := [.int (nI i), .int (p1)]) (rest := [.long (p0), .int (if (lg_cmp (p0 &&& (zf_X1_setOf (zf_X1_trumpFromTop 0 p1))) 0) = 0 then (0 : Int32) else 1)]) X (zc_X1_trumpFromTop (l := l) (p0 := nI i) (p1 := p1)) zw_X1_49 zn_X1_trumpFromTop (zcR_of rfl) zs0 rfl (Nat.le_of_ble_eq_true rfl) dX1_runOfTrumps_49) rfl ?_
          refine zc_l 55 (zr_S (As := [.int (zf_X1_trumpFromTop (nI i) p1)]) (rest := [.long (p0), .int (if (lg_cmp (p0 &&& (zf_X1_setOf (zf_X1_trumpFromTop 0 p1))) 0) = 0 then (0 : Int32) else 1)]) X (zc_X1_setOf (l := l) (p0 := zf_X1_trumpFromTop (nI i) p1)) zw_X1_25 zn_X1_setOf (zcR_of rfl) zs0 rfl (Nat.le_of_ble_eq_true rfl) dX1_runOfTrumps_52) rfl ?_
          refine zj_land 56 X dX1_runOfTrumps_55 rfl ?_
          refine zj_lconst 57 X (v := 0) dX1_runOfTrumps_56 (by decide) rfl ?_
          refine zj_lcmp 58 X dX1_runOfTrumps_57 rfl ?_
          refine zj_join 66 [(0, .long (p0)), (2, .int (p1)), (3, .int (4)), (4, .int (if (lg_cmp (p0 &&& (zf_X1_setOf (zf_X1_trumpFromTop 0 p1))) 0) = 0 then (0 : Int32) else 1)), (5, .int (nI i))] [.int (if (lg_cmp (p0 &&& (zf_X1_setOf (zf_X1_trumpFromTop (nI i) p1))) 0) = 0 then (0 : Int32) else 1), .int (if (lg_cmp (p0 &&& (zf_X1_setOf (zf_X1_trumpFromTop 0 p1))) 0) = 0 then (0 : Int32) else 1)] ?_ (fun J21 => ?_)
          · refine zj_icmp_ne 69 75 X dX1_runOfTrumps_66 (by decide) rfl (fun c22 => ?_) (fun c22 => ?_)
            · rw [if_neg c22] at hv
              refine zj_iload 77 X 3 dX1_runOfTrumps_75 rfl rfl ?_
              refine zj_if_eq 80 85 X dX1_runOfTrumps_77 (by decide) rfl (fun c23 => ?_) (fun c23 => ?_)
              · rw [if_pos c23] at hv
                refine zj_iload 87 X 4 dX1_runOfTrumps_85 rfl rfl ?_
                refine zj_ineg 88 X dX1_runOfTrumps_87 rfl ?_
                exact ze_i X Y hv dX1_runOfTrumps_88
              · rw [if_neg c23] at hv
                refine zj_iload 82 X 4 dX1_runOfTrumps_80 rfl rfl ?_
                refine zj_goto 88 X dX1_runOfTrumps_82 (by decide) ?_
                exact ze_i X Y hv dX1_runOfTrumps_88
            · rw [if_pos c22] at hv
              refine zj_iinc 72 X (v := nI (i + 1)) (lv1 := [(0, .long (p0)), (2, .int (p1)), (3, .int (4)), (4, .int (if (lg_cmp (p0 &&& (zf_X1_setOf (zf_X1_trumpFromTop 0 p1))) 0) = 0 then (0 : Int32) else 1)), (5, .int (nI (i + 1)))]) 4 [1, 2, 3, 4, 0] dX1_runOfTrumps_69 rfl (zinc _) (by decide) rfl rfl ?_
              refine zj_goto 37 X dX1_runOfTrumps_72 (by decide) ?_
              exact ih (i + 1)  (by omega)  hv
          · refine zj_if_eq 61 65 X dX1_runOfTrumps_58 (by decide) rfl (fun c24 => ?_) (fun c24 => ?_)
            · refine zj_iconst 66 X (v := 0) dX1_runOfTrumps_65 (by decide) rfl ?_
              simpa only [if_pos c24] using J21
            · refine zj_iconst 62 X (v := 1) dX1_runOfTrumps_61 (by decide) rfl ?_
              refine zj_goto 66 X dX1_runOfTrumps_62 (by decide) ?_
              simpa only [if_neg c24] using J21
      exact L16 3 1 (by decide)  hv
    · refine zj_if_eq 27 31 X dX1_runOfTrumps_24 (by decide) rfl (fun c25 => ?_) (fun c25 => ?_)
      · refine zj_iconst 32 X (v := 0) dX1_runOfTrumps_31 (by decide) rfl ?_
        simpa only [if_pos c25] using J15
      · refine zj_iconst 28 X (v := 1) dX1_runOfTrumps_27 (by decide) rfl ?_
        refine zj_goto 32 X dX1_runOfTrumps_28 (by decide) ?_
        simpa only [if_neg c25] using J15
def zf_X0_isNullValue (p0 : Int32) : Int32 := if p0 = 23 then 1 else (if p0 = 35 then 1 else (if p0 = 46 then 1 else (if p0 = 59 then 1 else 0)))
abbrev zR_X0_isNullValue : Room := { frames := 0, cells := 0, slots := 0, locals := 0 }
set_option maxHeartbeats 4000000 in
set_option maxRecDepth 100000 in
theorem zc_X0_isNullValue {l : Launch} {D : va_G} {C : ClassId × ClassId} {p0 : Int32} : zk_Mp l yX0_isNullValue cX0_isNullValue 1 (some .boolean) zR_X0_isNullValue [.int (p0)] [] D C (vp_Si (fun r => r = zf_X0_isNullValue p0)) := by
  refine zk_mp (by decide) (Nat.le_of_ble_eq_true rfl) ?_
  intro p e s m below meth c X Y
  generalize hv : zf_X0_isNullValue p0 = V
  unfold zf_X0_isNullValue at hv
  show zJ _ _ _ _ _ _ _ _ _ _ _ _ _ _ _ _ _ 0 [(0, .int (p0))] []
  refine zj_iload_n 1 X 0 dX0_isNullValue_0 rfl rfl ?_
  refine zj_bipush 3 X (v := 23) dX0_isNullValue_1 (by decide) rfl ?_
  refine zj_icmp_eq 6 24 X dX0_isNullValue_3 (by decide) rfl (fun c1 => ?_) (fun c1 => ?_)
  · rw [if_pos c1] at hv
    refine zj_iconst 25 X (v := 1) dX0_isNullValue_24 (by decide) rfl ?_
    refine zj_goto 29 X dX0_isNullValue_25 (by decide) ?_
    exact ze_z X Y (by decide) hv dX0_isNullValue_29
  · rw [if_neg c1] at hv
    refine zj_iload_n 7 X 0 dX0_isNullValue_6 rfl rfl ?_
    refine zj_bipush 9 X (v := 35) dX0_isNullValue_7 (by decide) rfl ?_
    refine zj_icmp_eq 12 24 X dX0_isNullValue_9 (by decide) rfl (fun c2 => ?_) (fun c2 => ?_)
    · rw [if_pos c2] at hv
      refine zj_iconst 25 X (v := 1) dX0_isNullValue_24 (by decide) rfl ?_
      refine zj_goto 29 X dX0_isNullValue_25 (by decide) ?_
      exact ze_z X Y (by decide) hv dX0_isNullValue_29
    · rw [if_neg c2] at hv
      refine zj_iload_n 13 X 0 dX0_isNullValue_12 rfl rfl ?_
      refine zj_bipush 15 X (v := 46) dX0_isNullValue_13 (by decide) rfl ?_
      refine zj_icmp_eq 18 24 X dX0_isNullValue_15 (by decide) rfl (fun c3 => ?_) (fun c3 => ?_)
      · rw [if_pos c3] at hv
        refine zj_iconst 25 X (v := 1) dX0_isNullValue_24 (by decide) rfl ?_
        refine zj_goto 29 X dX0_isNullValue_25 (by decide) ?_
        exact ze_z X Y (by decide) hv dX0_isNullValue_29
      · rw [if_neg c3] at hv
        refine zj_iload_n 19 X 0 dX0_isNullValue_18 rfl rfl ?_
        refine zj_bipush 21 X (v := 59) dX0_isNullValue_19 (by decide) rfl ?_
        refine zj_icmp_ne 24 28 X dX0_isNullValue_21 (by decide) rfl (fun c4 => ?_) (fun c4 => ?_)
        · rw [if_neg c4] at hv
          refine zj_iconst 29 X (v := 0) dX0_isNullValue_28 (by decide) rfl ?_
          exact ze_z X Y (by decide) hv dX0_isNullValue_29
        · rw [if_pos c4] at hv
          refine zj_iconst 25 X (v := 1) dX0_isNullValue_24 (by decide) rfl ?_
          refine zj_goto 29 X dX0_isNullValue_25 (by decide) ?_
          exact ze_z X Y (by decide) hv dX0_isNullValue_29
def zl_X0_isProduct_lp (p0 : Int32) (p1 : Int32) (p2 : Int32) : Nat → Nat → Int32
  | 0, i => 0
  | k + 1, i => if p0 = (p1 * (nI i)) then 1 else zl_X0_isProduct_lp p0 p1 p2 k (i + 1)
def zf_X0_isProduct (p0 : Int32) (p1 : Int32) (p2 : Int32) : Int32 := zl_X0_isProduct_lp p0 p1 p2 (p2.toNatClampNeg - 1) 2
abbrev zR_X0_isProduct : Room := { frames := 0, cells := 0, slots := 0, locals := 0 }
set_option maxHeartbeats 4000000 in
set_option maxRecDepth 100000 in
theorem zc_X0_isProduct {l : Launch} {D : va_G} {C : ClassId × ClassId} {N : Nat} {p0 : Int32} {p1 : Int32} {p2 : Int32} (hN : p2 = nI N) (hN1 : 1 ≤ N ∧ N < 1000) : zk_Mp l yX0_isProduct cX0_isProduct 4 (some .boolean) zR_X0_isProduct [.int (p0), .int (p1), .int (p2)] [] D C (vp_Si (fun r => r = zf_X0_isProduct p0 p1 p2)) := by
  refine zk_mp (by decide) (Nat.le_of_ble_eq_true rfl) ?_
  intro p e s m below meth c X Y
  generalize hv : zf_X0_isProduct p0 p1 p2 = V
  unfold zf_X0_isProduct at hv
  show zJ _ _ _ _ _ _ _ _ _ _ _ _ _ _ _ _ _ 0 [(0, .int (p0)), (1, .int (p1)), (2, .int (p2))] []
  refine zj_iconst 1 X (v := 2) dX0_isProduct_0 (by decide) rfl ?_
  refine zj_istore_n 2 X (lv1 := [(0, .int (p0)), (1, .int (p1)), (2, .int (p2)), (3, .int (2))]) [1, 2, 3, 0] dX0_isProduct_1 (by decide) rfl rfl ?_
  have L1 : ∀ (k i : Nat) , i + k = N + 1 → zl_X0_isProduct_lp p0 p1 p2 k i = V → zJ p l e zR_X0_isProduct s m ([.int (p0), .int (p1), .int (p2)] : List Value).toArray below meth c 0 0 (MQ below (vp_Si (fun r => r = V)) ([.int (p0), .int (p1), .int (p2)] : List Value).toArray s 0 0 (fun _ => False)) D (zk_K0 s) 4 [] 2 [(0, .int (p0)), (1, .int (p1)), (2, .int (p2)), (3, .int (nI i))] [] := by
    intro k
    induction k with
    | zero =>
      intro i h1 hv
      rw [zl_X0_isProduct_lp] at hv
      refine zj_iload_n 3 X 3 dX0_isProduct_2 rfl rfl ?_
      refine zj_iload_n 4 X 2 dX0_isProduct_3 rfl rfl ?_
      refine zj_icmp_gt 7 22 X dX0_isProduct_4 (by decide) rfl (fun _ => ?_) (fun c2 => absurd (by rw [hN]; exact nI_lt (by omega) (by omega)) c2)
      refine zj_iconst 23 X (v := 0) dX0_isProduct_22 (by decide) rfl ?_
      exact ze_z X Y (by decide) hv dX0_isProduct_23
    | succ k ih =>
      intro i h1 hv
      rw [zl_X0_isProduct_lp] at hv
      refine zj_iload_n 3 X 3 dX0_isProduct_2 rfl rfl ?_
      refine zj_iload_n 4 X 2 dX0_isProduct_3 rfl rfl ?_
      refine zj_icmp_gt 7 22 X dX0_isProduct_4 (by decide) rfl (fun c3 => absurd c3 (by rw [hN]; exact nI_nlt (by omega) (by omega))) (fun _ => ?_)
      refine zj_iload_n 8 X 0 dX0_isProduct_7 rfl rfl ?_
      refine zj_iload_n 9 X 1 dX0_isProduct_8 rfl rfl ?_
      refine zj_iload_n 10 X 3 dX0_isProduct_9 rfl rfl ?_
      refine zj_imul 11 X dX0_isProduct_10 rfl ?_
      refine zj_icmp_ne 14 16 X dX0_isProduct_11 (by decide) rfl (fun c4 => ?_) (fun c4 => ?_)
      · rw [if_neg c4] at hv
        refine zj_iinc 19 X (v := nI (i + 1)) (lv1 := [(0, .int (p0)), (1, .int (p1)), (2, .int (p2)), (3, .int (nI (i + 1)))]) 3 [1, 2, 3, 0] dX0_isProduct_16 rfl (zinc _) (by decide) rfl rfl ?_
        refine zj_goto 2 X dX0_isProduct_19 (by decide) ?_
        exact ih (i + 1)  (by omega)  hv
      · rw [if_pos c4] at hv
        refine zj_iconst 15 X (v := 1) dX0_isProduct_14 (by decide) rfl ?_
        exact ze_z X Y (by decide) hv dX0_isProduct_15
  exact L1 (p2.toNatClampNeg - 1) 2 (by rw [hN, nI_clamp (by omega)]; omega)  hv
def zf_X0_isBid (p0 : Int32) : Int32 := if (zf_X0_isNullValue p0) = 0 then (if (zf_X0_isProduct p0 9 18) = 0 then (if (zf_X0_isProduct p0 10 18) = 0 then (if (zf_X0_isProduct p0 11 18) = 0 then (if (zf_X0_isProduct p0 12 18) = 0 then (if (zf_X0_isProduct p0 24 11) = 0 then 0 else 1) else 1) else 1) else 1) else 1) else 1
abbrev zR_X0_isBid : Room := { frames := 1, cells := 0, slots := 0, locals := 23 }
set_option maxHeartbeats 4000000 in
set_option maxRecDepth 100000 in
theorem zc_X0_isBid {l : Launch} {D : va_G} {C : ClassId × ClassId} {p0 : Int32} : zk_Mp l yX0_isBid cX0_isBid 1 (some .boolean) zR_X0_isBid [.int (p0)] [] D C (vp_Si (fun r => r = zf_X0_isBid p0)) := by
  refine zk_mp (by decide) (Nat.le_of_ble_eq_true rfl) ?_
  intro p e s m below meth c X Y
  generalize hv : zf_X0_isBid p0 = V
  unfold zf_X0_isBid at hv
  show zJ _ _ _ _ _ _ _ _ _ _ _ _ _ _ _ _ _ 0 [(0, .int (p0))] []
  refine zj_iload_n 1 X 0 dX0_isBid_0 rfl rfl ?_
  refine zc_i 4 (zr_S (As := [.int (p0)]) (rest := []) X (zc_X0_isNullValue (l := l) (p0 := p0)) zw_X0_7 zn_X0_isNullValue (zcR_of rfl) zs0 rfl (Nat.le_of_ble_eq_true rfl) dX0_isBid_1) rfl ?_
  refine zj_if_ne 7 62 X dX0_isBid_4 (by decide) rfl (fun c1 => ?_) (fun c1 => ?_)
  · rw [if_neg c1] at hv
    refine zj_iconst 63 X (v := 1) dX0_isBid_62 (by decide) rfl ?_
    refine zj_goto 67 X dX0_isBid_63 (by decide) ?_
    exact ze_z X Y (by decide) hv dX0_isBid_67
  · rw [if_pos c1] at hv
    refine zj_iload_n 8 X 0 dX0_isBid_7 rfl rfl ?_
    refine zj_bipush 10 X (v := 9) dX0_isBid_8 (by decide) rfl ?_
    refine zj_bipush 12 X (v := 18) dX0_isBid_10 (by decide) rfl ?_
    refine zc_i 15 (zr_S (As := [.int (p0), .int (9), .int (18)]) (rest := []) X (zc_X0_isProduct (l := l) (p0 := p0) (p1 := 9) (p2 := 18) (hN := (by rfl)) (hN1 := (by decide)) (N := 18)) zw_X0_13 zn_X0_isProduct (zcR_of rfl) zs0 rfl (Nat.le_of_ble_eq_true rfl) dX0_isBid_12) rfl ?_
    refine zj_if_ne 18 62 X dX0_isBid_15 (by decide) rfl (fun c2 => ?_) (fun c2 => ?_)
    · rw [if_neg c2] at hv
      refine zj_iconst 63 X (v := 1) dX0_isBid_62 (by decide) rfl ?_
      refine zj_goto 67 X dX0_isBid_63 (by decide) ?_
      exact ze_z X Y (by decide) hv dX0_isBid_67
    · rw [if_pos c2] at hv
      refine zj_iload_n 19 X 0 dX0_isBid_18 rfl rfl ?_
      refine zj_bipush 21 X (v := 10) dX0_isBid_19 (by decide) rfl ?_
      refine zj_bipush 23 X (v := 18) dX0_isBid_21 (by decide) rfl ?_
      refine zc_i 26 (zr_S (As := [.int (p0), .int (10), .int (18)]) (rest := []) X (zc_X0_isProduct (l := l) (p0 := p0) (p1 := 10) (p2 := 18) (hN := (by rfl)) (hN1 := (by decide)) (N := 18)) zw_X0_13 zn_X0_isProduct (zcR_of rfl) zs0 rfl (Nat.le_of_ble_eq_true rfl) dX0_isBid_23) rfl ?_
      refine zj_if_ne 29 62 X dX0_isBid_26 (by decide) rfl (fun c3 => ?_) (fun c3 => ?_)
      · rw [if_neg c3] at hv
        refine zj_iconst 63 X (v := 1) dX0_isBid_62 (by decide) rfl ?_
        refine zj_goto 67 X dX0_isBid_63 (by decide) ?_
        exact ze_z X Y (by decide) hv dX0_isBid_67
      · rw [if_pos c3] at hv
        refine zj_iload_n 30 X 0 dX0_isBid_29 rfl rfl ?_
        refine zj_bipush 32 X (v := 11) dX0_isBid_30 (by decide) rfl ?_
        refine zj_bipush 34 X (v := 18) dX0_isBid_32 (by decide) rfl ?_
        refine zc_i 37 (zr_S (As := [.int (p0), .int (11), .int (18)]) (rest := []) X (zc_X0_isProduct (l := l) (p0 := p0) (p1 := 11) (p2 := 18) (hN := (by rfl)) (hN1 := (by decide)) (N := 18)) zw_X0_13 zn_X0_isProduct (zcR_of rfl) zs0 rfl (Nat.le_of_ble_eq_true rfl) dX0_isBid_34) rfl ?_
        refine zj_if_ne 40 62 X dX0_isBid_37 (by decide) rfl (fun c4 => ?_) (fun c4 => ?_)
        · rw [if_neg c4] at hv
          refine zj_iconst 63 X (v := 1) dX0_isBid_62 (by decide) rfl ?_
          refine zj_goto 67 X dX0_isBid_63 (by decide) ?_
          exact ze_z X Y (by decide) hv dX0_isBid_67
        · rw [if_pos c4] at hv
          refine zj_iload_n 41 X 0 dX0_isBid_40 rfl rfl ?_
          refine zj_bipush 43 X (v := 12) dX0_isBid_41 (by decide) rfl ?_
          refine zj_bipush 45 X (v := 18) dX0_isBid_43 (by decide) rfl ?_
          refine zc_i 48 (zr_S (As := [.int (p0), .int (12), .int (18)]) (rest := []) X (zc_X0_isProduct (l := l) (p0 := p0) (p1 := 12) (p2 := 18) (hN := (by rfl)) (hN1 := (by decide)) (N := 18)) zw_X0_13 zn_X0_isProduct (zcR_of rfl) zs0 rfl (Nat.le_of_ble_eq_true rfl) dX0_isBid_45) rfl ?_
          refine zj_if_ne 51 62 X dX0_isBid_48 (by decide) rfl (fun c5 => ?_) (fun c5 => ?_)
          · rw [if_neg c5] at hv
            refine zj_iconst 63 X (v := 1) dX0_isBid_62 (by decide) rfl ?_
            refine zj_goto 67 X dX0_isBid_63 (by decide) ?_
            exact ze_z X Y (by decide) hv dX0_isBid_67
          · rw [if_pos c5] at hv
            refine zj_iload_n 52 X 0 dX0_isBid_51 rfl rfl ?_
            refine zj_bipush 54 X (v := 24) dX0_isBid_52 (by decide) rfl ?_
            refine zj_bipush 56 X (v := 11) dX0_isBid_54 (by decide) rfl ?_
            refine zc_i 59 (zr_S (As := [.int (p0), .int (24), .int (11)]) (rest := []) X (zc_X0_isProduct (l := l) (p0 := p0) (p1 := 24) (p2 := 11) (hN := (by rfl)) (hN1 := (by decide)) (N := 11)) zw_X0_13 zn_X0_isProduct (zcR_of rfl) zs0 rfl (Nat.le_of_ble_eq_true rfl) dX0_isBid_56) rfl ?_
            refine zj_if_eq 62 66 X dX0_isBid_59 (by decide) rfl (fun c6 => ?_) (fun c6 => ?_)
            · rw [if_pos c6] at hv
              refine zj_iconst 67 X (v := 0) dX0_isBid_66 (by decide) rfl ?_
              exact ze_z X Y (by decide) hv dX0_isBid_67
            · rw [if_neg c6] at hv
              refine zj_iconst 63 X (v := 1) dX0_isBid_62 (by decide) rfl ?_
              refine zj_goto 67 X dX0_isBid_63 (by decide) ?_
              exact ze_z X Y (by decide) hv dX0_isBid_67
def zl_X0_leastAbove_lp (p0 : Int32) : Nat → Nat → Int32
  | 0, i => 264
  | k + 1, i => if (zf_X0_isBid (nI i)) = 0 then zl_X0_leastAbove_lp p0 k (i + 1) else nI i
def zf_X0_leastAbove (p0 : Int32) : Int32 := zl_X0_leastAbove_lp p0 (263 - p0.toNatClampNeg) (p0.toNatClampNeg + 1)
abbrev zR_X0_leastAbove : Room := { frames := 2, cells := 0, slots := 0, locals := 43 }
set_option maxHeartbeats 4000000 in
set_option maxRecDepth 100000 in
theorem zc_X0_leastAbove {l : Launch} {D : va_G} {C : ClassId × ClassId} {p0 : Int32} (hp : p0 + 1 = nI (p0.toNatClampNeg + 1)) (hp1 : p0.toNatClampNeg < 264) : zk_Mp l yX0_leastAbove cX0_leastAbove 2 (some .int) zR_X0_leastAbove [.int (p0)] [] D C (vp_Si (fun r => r = zf_X0_leastAbove p0)) := by
  refine zk_mp (by decide) (Nat.le_of_ble_eq_true rfl) ?_
  intro p e s m below meth c X Y
  generalize hv : zf_X0_leastAbove p0 = V
  unfold zf_X0_leastAbove at hv
  show zJ _ _ _ _ _ _ _ _ _ _ _ _ _ _ _ _ _ 0 [(0, .int (p0))] []
  refine zj_iload_n 1 X 0 dX0_leastAbove_0 rfl rfl ?_
  refine zj_iconst 2 X (v := 1) dX0_leastAbove_1 (by decide) rfl ?_
  refine zj_iadd 3 X dX0_leastAbove_2 rfl ?_
  refine zj_istore_n 4 X (lv1 := [(0, .int (p0)), (1, .int (p0 + 1))]) [1, 0] dX0_leastAbove_3 (by decide) rfl rfl ?_
  have L1 : ∀ (k i : Nat) , i + k = 264 → zl_X0_leastAbove_lp p0 k i = V → zJ p l e zR_X0_leastAbove s m ([.int (p0)] : List Value).toArray below meth c 0 0 (MQ below (vp_Si (fun r => r = V)) ([.int (p0)] : List Value).toArray s 0 0 (fun _ => False)) D (zk_K0 s) 2 [] 4 [(0, .int (p0)), (1, .int (nI i))] [] := by
    intro k
    induction k with
    | zero =>
      intro i h1 hv
      rw [zl_X0_leastAbove_lp] at hv
      refine zj_iload_n 5 X 1 dX0_leastAbove_4 rfl rfl ?_
      refine zj_sipush 8 X (v := 264) dX0_leastAbove_5 (by decide) rfl ?_
      refine zj_icmp_ge 11 26 X dX0_leastAbove_8 (by decide) rfl (fun _ => ?_) (fun c2 => absurd (zge0 (N := 264) (by rfl) (by omega)) c2)
      refine zj_sipush 29 X (v := 264) dX0_leastAbove_26 (by decide) rfl ?_
      exact ze_i X Y hv dX0_leastAbove_29
    | succ k ih =>
      intro i h1 hv
      rw [zl_X0_leastAbove_lp] at hv
      refine zj_iload_n 5 X 1 dX0_leastAbove_4 rfl rfl ?_
      refine zj_sipush 8 X (v := 264) dX0_leastAbove_5 (by decide) rfl ?_
      refine zj_icmp_ge 11 26 X dX0_leastAbove_8 (by decide) rfl (fun c3 => absurd c3 (zge (N := 264) (by rfl) (by omega) (by decide))) (fun _ => ?_)
      refine zj_iload_n 12 X 1 dX0_leastAbove_11 rfl rfl ?_
      refine zc_i 15 (zr_S (As := [.int (nI i)]) (rest := []) X (zc_X0_isBid (l := l) (p0 := nI i)) zw_X0_17 zn_X0_isBid (zcR_of rfl) zs0 rfl (Nat.le_of_ble_eq_true rfl) dX0_leastAbove_12) rfl ?_
      refine zj_if_eq 18 20 X dX0_leastAbove_15 (by decide) rfl (fun c4 => ?_) (fun c4 => ?_)
      · rw [if_pos c4] at hv
        refine zj_iinc 23 X (v := nI (i + 1)) (lv1 := [(0, .int (p0)), (1, .int (nI (i + 1)))]) 1 [1, 0] dX0_leastAbove_20 rfl (zinc _) (by decide) rfl rfl ?_
        refine zj_goto 4 X dX0_leastAbove_23 (by decide) ?_
        exact ih (i + 1)  (by omega)  hv
      · rw [if_neg c4] at hv
        refine zj_iload_n 19 X 1 dX0_leastAbove_18 rfl rfl ?_
        exact ze_i X Y hv dX0_leastAbove_19
  rw [hp]
  exact L1 (263 - p0.toNatClampNeg) (p0.toNatClampNeg + 1) (by omega)  hv
