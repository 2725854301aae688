abbrev zR_L_areCardsSo : Room := { frames := 8, cells := 16, slots := 96, locals := 131 }
set_option maxHeartbeats 40000000 in
set_option maxRecDepth 100000 in
theorem zc_L_areCardsSo {l : Launch} {D : va_G} {C : ClassId × ClassId} {a : Nat → Nat} {u : zU} (h : zU1 u) (hfl : l.stackTraces = false) : zk_L l (.code yL_areCardsSo cL_areCardsSo 12 (some .boolean)) yL_areCardsSo zR_L_areCardsSo 16 96 [.ref (a 0)] (zS C a u) D C (zQi D (zS C a u) 1 1) := by
  refine zk_l (by decide) (Nat.le_of_ble_eq_true rfl) ?_
  intro p e s m below meth c A X Y hD hA
  have FA : zFr D A (zS C a u) (zS C a u) := zFr_N hD
  show zJ _ _ _ _ _ _ _ _ _ _ _ _ _ _ _ _ _ 0 [(0, .ref (a 0))] []
  refine zj_aload_n 1 X 0 dL_areCardsSo_0 rfl rfl ?_
  refine zc_iv 4 0 (zr_V (As := []) (rest := []) (wsub := zS C a u) X (zc_X4_phase (l := l) (D := D) (C := C) (a := a) (u := u)) zw_L_60 zn_X4_phase (zcR_of rfl) zO_S0 zsI rfl (Nat.le_of_ble_eq_true rfl) dL_areCardsSo_1) (zq_phase h) rfl ?_
  refine zj_istore_n 5 X (lv1 := [(0, .ref (a 0)), (1, .int 0)]) [1, 0] dL_areCardsSo_4 (by decide) rfl rfl ?_
  refine zj_aload_n 6 X 0 dL_areCardsSo_5 rfl rfl ?_
  refine zc_iv 9 1 (zr_V (As := []) (rest := []) (wsub := zS C a u) X (zc_X4_onTurn (l := l) (D := D) (C := C) (a := a) (u := u)) zw_L_73 zn_X4_onTurn (zcR_of rfl) zO_S0 zsI rfl (Nat.le_of_ble_eq_true rfl) dL_areCardsSo_6) (zq_onTurn h) rfl ?_
  refine zj_istore_n 10 X (lv1 := [(0, .ref (a 0)), (1, .int 0), (2, .int 1)]) [1, 2, 0] dL_areCardsSo_9 (by decide) rfl rfl ?_
  refine zj_aload_n 11 X 0 dL_areCardsSo_10 rfl rfl ?_
  refine zj_iconst 12 X (v := 0) dL_areCardsSo_11 (by decide) rfl ?_
  refine zc_iq 15 (w := 0) 1 6 (zr_Vx (As := [.int 0]) (rest := []) X (zc_X4_tricks (l := l) (D := D) (C := C) (a := a) (u := u) (p0 := 0) (hfl := hfl)) zw_L_103 zn_X4_tricks (zcR_of rfl) zO_S0 FA.1 hA rfl (Nat.le_of_ble_eq_true rfl) dL_areCardsSo_12) (zq_tricks_0 h) FA hA rfl rfl rfl ?_
  refine zj_aload_n 16 X 0 dL_areCardsSo_15 rfl rfl ?_
  refine zj_iconst 17 X (v := 1) dL_areCardsSo_16 (by decide) rfl ?_
  refine zc_iq 20 (w := 0) 2 12 (zr_Vx (As := [.int 1]) (rest := [.int 0]) X (zc_X4_tricks (l := l) (D := D) (C := C) (a := a) (u := u) (p0 := 1) (hfl := hfl)) zw_L_103 zn_X4_tricks (zcR_of rfl) zO_S0 FA.1 hA rfl (Nat.le_of_ble_eq_true rfl) dL_areCardsSo_17) (zq_tricks_1 h) FA hA rfl rfl rfl ?_
  refine zj_iadd 21 X dL_areCardsSo_20 rfl ?_
  refine zj_ti 0 (by decide +kernel) ?_
  refine zj_aload_n 22 X 0 dL_areCardsSo_21 rfl rfl ?_
  refine zj_iconst 23 X (v := 2) dL_areCardsSo_22 (by decide) rfl ?_
  refine zc_iq 26 (w := 0) 3 18 (zr_Vx (As := [.int 2]) (rest := [.int 0]) X (zc_X4_tricks (l := l) (D := D) (C := C) (a := a) (u := u) (p0 := 2) (hfl := hfl)) zw_L_103 zn_X4_tricks (zcR_of rfl) zO_S0 FA.1 hA rfl (Nat.le_of_ble_eq_true rfl) dL_areCardsSo_23) (zq_tricks_2 h) FA hA rfl rfl rfl ?_
  refine zj_iadd 27 X dL_areCardsSo_26 rfl ?_
  refine zj_ti 0 (by decide +kernel) ?_
  refine zj_istore_n 28 X (lv1 := [(0, .ref (a 0)), (1, .int 0), (2, .int 1), (3, .int 0)]) [1, 2, 3, 0] dL_areCardsSo_27 (by decide) rfl rfl ?_
  refine zj_lconst 29 X (v := 0) dL_areCardsSo_28 (by decide) rfl ?_
  refine zj_lstore 31 X (lv1 := [(0, .ref (a 0)), (1, .int 0), (2, .int 1), (3, .int 0), (4, .long 0)]) [1, 2, 3, 4, 0] dL_areCardsSo_29 (by decide) rfl rfl ?_
  refine zj_iconst 32 X (v := 0) dL_areCardsSo_31 (by decide) rfl ?_
  refine zj_istore 34 X (lv1 := [(0, .ref (a 0)), (1, .int 0), (2, .int 1), (3, .int 0), (4, .long 0), (6, .int 0)]) [1, 2, 3, 4, 5, 0] dL_areCardsSo_32 (by decide) rfl rfl ?_
  refine zj_aload_n 35 X 0 dL_areCardsSo_34 rfl rfl ?_
  refine zj_iconst 36 X (v := 0) dL_areCardsSo_35 (by decide) rfl ?_
  refine zc_iq 39 (w := 0) 4 24 (zr_Vx (As := [.int 0]) (rest := []) X (zc_X4_points (l := l) (D := D) (C := C) (a := a) (u := u) (p0 := 0) (hfl := hfl)) zw_L_100 zn_X4_points (zcR_of rfl) zO_S0 FA.1 hA rfl (Nat.le_of_ble_eq_true rfl) dL_areCardsSo_36) (zq_points_0 h) FA hA rfl rfl rfl ?_
  refine zj_aload_n 40 X 0 dL_areCardsSo_39 rfl rfl ?_
  refine zj_iconst 41 X (v := 1) dL_areCardsSo_40 (by decide) rfl ?_
  refine zc_iq 44 (w := 0) 5 30 (zr_Vx (As := [.int 1]) (rest := [.int 0]) X (zc_X4_points (l := l) (D := D) (C := C) (a := a) (u := u) (p0 := 1) (hfl := hfl)) zw_L_100 zn_X4_points (zcR_of rfl) zO_S0 FA.1 hA rfl (Nat.le_of_ble_eq_true rfl) dL_areCardsSo_41) (zq_points_1 h) FA hA rfl rfl rfl ?_
  refine zj_iadd 45 X dL_areCardsSo_44 rfl ?_
  refine zj_ti 0 (by decide +kernel) ?_
  refine zj_aload_n 46 X 0 dL_areCardsSo_45 rfl rfl ?_
  refine zj_iconst 47 X (v := 2) dL_areCardsSo_46 (by decide) rfl ?_
  refine zc_iq 50 (w := 0) 6 36 (zr_Vx (As := [.int 2]) (rest := [.int 0]) X (zc_X4_points (l := l) (D := D) (C := C) (a := a) (u := u) (p0 := 2) (hfl := hfl)) zw_L_100 zn_X4_points (zcR_of rfl) zO_S0 FA.1 hA rfl (Nat.le_of_ble_eq_true rfl) dL_areCardsSo_47) (zq_points_2 h) FA hA rfl rfl rfl ?_
  refine zj_iadd 51 X dL_areCardsSo_50 rfl ?_
  refine zj_ti 0 (by decide +kernel) ?_
  refine zj_istore 53 X (lv1 := [(0, .ref (a 0)), (1, .int 0), (2, .int 1), (3, .int 0), (4, .long 0), (6, .int 0), (7, .int 0)]) [1, 2, 3, 4, 5, 6, 0] dL_areCardsSo_51 (by decide) rfl rfl ?_
  refine zj_iconst 54 X (v := 0) dL_areCardsSo_53 (by decide) rfl ?_
  refine zj_istore 56 X (lv1 := [(0, .ref (a 0)), (1, .int 0), (2, .int 1), (3, .int 0), (4, .long 0), (6, .int 0), (7, .int 0), (8, .int 0)]) [1, 2, 3, 4, 5, 6, 7, 0] dL_areCardsSo_54 (by decide) rfl rfl ?_
  refine zj_iconst 57 X (v := 0) dL_areCardsSo_56 (by decide) rfl ?_
  refine zj_istore 59 X (lv1 := [(0, .ref (a 0)), (1, .int 0), (2, .int 1), (3, .int 0), (4, .long 0), (6, .int 0), (7, .int 0), (8, .int 0), (9, .int 0)]) [1, 2, 3, 4, 5, 6, 7, 8, 0] dL_areCardsSo_57 (by decide) rfl rfl ?_
  refine zj_iload 61 X 8 dL_areCardsSo_59 rfl rfl ?_
  refine zj_iconst 62 X (v := 3) dL_areCardsSo_61 (by decide) rfl ?_
  refine zj_icmp_ge 65 168 X dL_areCardsSo_62 (by decide) rfl (fun h9 => absurd h9 (by decide)) (fun _ => ?_)
  refine zj_aload_n 66 X 0 dL_areCardsSo_65 rfl rfl ?_
  refine zj_iload 68 X 8 dL_areCardsSo_66 rfl rfl ?_
  refine zc_lq 71 (w := 160842848) 7 42 (zr_Vx (As := [.int 0]) (rest := []) X (zc_X4_hand (l := l) (D := D) (C := C) (a := a) (u := u) (p0 := 0) (hfl := hfl)) zw_L_76 zn_X4_hand (zcR_of rfl) zO_S0 FA.1 hA rfl (Nat.le_of_ble_eq_true rfl) dL_areCardsSo_68) (zq_hand_0 h) FA hA rfl rfl rfl ?_
  refine zj_lstore 73 X (lv1 := [(0, .ref (a 0)), (1, .int 0), (2, .int 1), (3, .int 0), (4, .long 0), (6, .int 0), (7, .int 0), (8, .int 0), (9, .int 0), (10, .long 160842848)]) [1, 2, 3, 4, 5, 6, 7, 8, 9, 0] dL_areCardsSo_71 (by decide) rfl rfl ?_
  refine zj_iload 75 X 7 dL_areCardsSo_73 rfl rfl ?_
  refine zj_aload_n 76 X 0 dL_areCardsSo_75 rfl rfl ?_
  refine zj_iload 78 X 8 dL_areCardsSo_76 rfl rfl ?_
  refine zc_iq 81 (w := (-1)) 8 48 (zr_Vx (As := [.int 0]) (rest := [.int 0]) X (zc_X4_inTrick (l := l) (D := D) (C := C) (a := a) (u := u) (p0 := 0) (hfl := hfl)) zw_L_109 zn_X4_inTrick (zcR_of rfl) zO_S0 FA.1 hA rfl (Nat.le_of_ble_eq_true rfl) dL_areCardsSo_78) (zq_inTrick_0 h) FA hA rfl rfl rfl ?_
  refine zj_if_lt 84 88 X dL_areCardsSo_81 (by decide) rfl (fun _ => ?_) (fun h9 => absurd h9 (by decide))
  refine zj_iconst 89 X (v := 0) dL_areCardsSo_88 (by decide) rfl ?_
  refine zj_iadd 90 X dL_areCardsSo_89 rfl ?_
  refine zj_ti 0 (by decide +kernel) ?_
  refine zj_istore 92 X (lv1 := [(0, .ref (a 0)), (1, .int 0), (2, .int 1), (3, .int 0), (4, .long 0), (6, .int 0), (7, .int 0), (8, .int 0), (9, .int 0), (10, .long 160842848)]) [1, 2, 3, 4, 5, 6, 7, 0, 8, 9] dL_areCardsSo_90 (by decide) rfl rfl ?_
  refine zj_lload 94 X 4 dL_areCardsSo_92 rfl rfl ?_
  refine zj_lload 96 X 9 dL_areCardsSo_94 rfl rfl ?_
  refine zj_land 97 X dL_areCardsSo_96 rfl ?_
  refine zj_tl 0 (by decide +kernel) ?_
  refine zj_lconst 98 X (v := 0) dL_areCardsSo_97 (by decide) rfl ?_
  refine zj_lcmp 99 X dL_areCardsSo_98 rfl ?_
  refine zj_ti 0 (by decide +kernel) ?_
  refine zj_if_ne 102 143 X dL_areCardsSo_99 (by decide) rfl (fun h9 => absurd h9 (by decide)) (fun _ => ?_)
  refine zj_lload 104 X 9 dL_areCardsSo_102 rfl rfl ?_
  refine zj_lconst 105 X (v := 0) dL_areCardsSo_104 (by decide) rfl ?_
  refine zj_lcmp 106 X dL_areCardsSo_105 rfl ?_
  refine zj_ti 1 (by decide +kernel) ?_
  refine zj_if_lt 109 143 X dL_areCardsSo_106 (by decide) rfl (fun h9 => absurd h9 (by decide)) (fun _ => ?_)
  refine zj_lload 111 X 9 dL_areCardsSo_109 rfl rfl ?_
  refine zj_ldc2 114 X (v := 4294967295) (zG_t 582 (by decide +kernel) rfl) dL_areCardsSo_111 rfl ?_
  refine zj_lcmp 115 X dL_areCardsSo_114 rfl ?_
  refine zj_ti (-1) (by decide +kernel) ?_
  refine zj_if_gt 118 143 X dL_areCardsSo_115 (by decide) rfl (fun h9 => absurd h9 (by decide)) (fun _ => ?_)
  refine zj_aload_n 119 X 0 dL_areCardsSo_118 rfl rfl ?_
  refine zj_iload 121 X 8 dL_areCardsSo_119 rfl rfl ?_
  refine zc_iq 124 (w := (-1)) 9 54 (zr_Vx (As := [.int 0]) (rest := []) X (zc_X4_inTrick (l := l) (D := D) (C := C) (a := a) (u := u) (p0 := 0) (hfl := hfl)) zw_L_109 zn_X4_inTrick (zcR_of rfl) zO_S0 FA.1 hA rfl (Nat.le_of_ble_eq_true rfl) dL_areCardsSo_121) (zq_inTrick_0 h) FA hA rfl rfl rfl ?_
  refine zj_if_lt 127 145 X dL_areCardsSo_124 (by decide) rfl (fun _ => ?_) (fun h9 => absurd h9 (by decide))
  refine zj_lload 147 X 4 dL_areCardsSo_145 rfl rfl ?_
  refine zj_lload 149 X 9 dL_areCardsSo_147 rfl rfl ?_
  refine zj_lor 150 X dL_areCardsSo_149 rfl ?_
  refine zj_tl 160842848 (by decide +kernel) ?_
  refine zj_lstore 152 X (lv1 := [(0, .ref (a 0)), (1, .int 0), (2, .int 1), (3, .int 0), (4, .long 160842848), (6, .int 0), (7, .int 0), (8, .int 0), (9, .int 0), (10, .long 160842848)]) [1, 2, 3, 4, 0, 5, 6, 7, 8, 9] dL_areCardsSo_150 (by decide) rfl rfl ?_
  refine zj_iload 154 X 5 dL_areCardsSo_152 rfl rfl ?_
  refine zj_lload 156 X 9 dL_areCardsSo_154 rfl rfl ?_
  refine zc_iv 159 10 (zr_S (As := [.long 160842848]) (rest := [.int 0]) X (zc_L_many (l := l) (D := D) (C := C) (p0 := 160842848)) zw_L_84 zn_L_many (zcR_of rfl) zs0 rfl (Nat.le_of_ble_eq_true rfl) dL_areCardsSo_156) (by decide +kernel) rfl ?_
  refine zj_iadd 160 X dL_areCardsSo_159 rfl ?_
  refine zj_ti 10 (by decide +kernel) ?_
  refine zj_istore 162 X (lv1 := [(0, .ref (a 0)), (1, .int 0), (2, .int 1), (3, .int 0), (4, .long 160842848), (6, .int 10), (7, .int 0), (8, .int 0), (9, .int 0), (10, .long 160842848)]) [1, 2, 3, 4, 5, 0, 6, 7, 8, 9] dL_areCardsSo_160 (by decide) rfl rfl ?_
  refine zj_iinc 165 X (v := 1) (lv1 := [(0, .ref (a 0)), (1, .int 0), (2, .int 1), (3, .int 0), (4, .long 160842848), (6, .int 10), (7, .int 0), (8, .int 0), (9, .int 1), (10, .long 160842848)]) 8 [1, 2, 3, 4, 5, 6, 7, 8, 0, 9] dL_areCardsSo_162 rfl (by decide) (by decide) rfl rfl ?_
  refine zj_goto 59 X dL_areCardsSo_165 (by decide) ?_
  refine zj_iload 61 X 8 dL_areCardsSo_59 rfl rfl ?_
  refine zj_iconst 62 X (v := 3) dL_areCardsSo_61 (by decide) rfl ?_
  refine zj_icmp_ge 65 168 X dL_areCardsSo_62 (by decide) rfl (fun h9 => absurd h9 (by decide)) (fun _ => ?_)
  refine zj_aload_n 66 X 0 dL_areCardsSo_65 rfl rfl ?_
  refine zj_iload 68 X 8 dL_areCardsSo_66 rfl rfl ?_
  refine zc_lq 71 (w := 2690661122) 10 60 (zr_Vx (As := [.int 1]) (rest := []) X (zc_X4_hand (l := l) (D := D) (C := C) (a := a) (u := u) (p0 := 1) (hfl := hfl)) zw_L_76 zn_X4_hand (zcR_of rfl) zO_S0 FA.1 hA rfl (Nat.le_of_ble_eq_true rfl) dL_areCardsSo_68) (zq_hand_1 h) FA hA rfl rfl rfl ?_
  refine zj_lstore 73 X (lv1 := [(0, .ref (a 0)), (1, .int 0), (2, .int 1), (3, .int 0), (4, .long 160842848), (6, .int 10), (7, .int 0), (8, .int 0), (9, .int 1), (10, .long 2690661122)]) [1, 2, 3, 4, 5, 6, 7, 8, 9, 0] dL_areCardsSo_71 (by decide) rfl rfl ?_
  refine zj_iload 75 X 7 dL_areCardsSo_73 rfl rfl ?_
  refine zj_aload_n 76 X 0 dL_areCardsSo_75 rfl rfl ?_
  refine zj_iload 78 X 8 dL_areCardsSo_76 rfl rfl ?_
  refine zc_iq 81 (w := (-1)) 11 66 (zr_Vx (As := [.int 1]) (rest := [.int 0]) X (zc_X4_inTrick (l := l) (D := D) (C := C) (a := a) (u := u) (p0 := 1) (hfl := hfl)) zw_L_109 zn_X4_inTrick (zcR_of rfl) zO_S0 FA.1 hA rfl (Nat.le_of_ble_eq_true rfl) dL_areCardsSo_78) (zq_inTrick_1 h) FA hA rfl rfl rfl ?_
  refine zj_if_lt 84 88 X dL_areCardsSo_81 (by decide) rfl (fun _ => ?_) (fun h9 => absurd h9 (by decide))
  refine zj_iconst 89 X (v := 0) dL_areCardsSo_88 (by decide) rfl ?_
  refine zj_iadd 90 X dL_areCardsSo_89 rfl ?_
  refine zj_ti 0 (by decide +kernel) ?_
  refine zj_istore 92 X (lv1 := [(0, .ref (a 0)), (1, .int 0), (2, .int 1), (3, .int 0), (4, .long 160842848), (6, .int 10), (7, .int 0), (8, .int 0), (9, .int 1), (10, .long 2690661122)]) [1, 2, 3, 4, 5, 6, 7, 0, 8, 9] dL_areCardsSo_90 (by decide) rfl rfl ?_
  refine zj_lload 94 X 4 dL_areCardsSo_92 rfl rfl ?_
  refine zj_lload 96 X 9 dL_areCardsSo_94 rfl rfl ?_
  refine zj_land 97 X dL_areCardsSo_96 rfl ?_
  refine zj_tl 0 (by decide +kernel) ?_
  refine zj_lconst 98 X (v := 0) dL_areCardsSo_97 (by decide) rfl ?_
  refine zj_lcmp 99 X dL_areCardsSo_98 rfl ?_
  refine zj_ti 0 (by decide +kernel) ?_
  refine zj_if_ne 102 143 X dL_areCardsSo_99 (by decide) rfl (fun h9 => absurd h9 (by decide)) (fun _ => ?_)
  refine zj_lload 104 X 9 dL_areCardsSo_102 rfl rfl ?_
  refine zj_lconst 105 X (v := 0) dL_areCardsSo_104 (by decide) rfl ?_
  refine zj_lcmp 106 X dL_areCardsSo_105 rfl ?_
  refine zj_ti 1 (by decide +kernel) ?_
  refine zj_if_lt 109 143 X dL_areCardsSo_106 (by decide) rfl (fun h9 => absurd h9 (by decide)) (fun _ => ?_)
  refine zj_lload 111 X 9 dL_areCardsSo_109 rfl rfl ?_
  refine zj_ldc2 114 X (v := 4294967295) (zG_t 582 (by decide +kernel) rfl) dL_areCardsSo_111 rfl ?_
  refine zj_lcmp 115 X dL_areCardsSo_114 rfl ?_
  refine zj_ti (-1) (by decide +kernel) ?_
  refine zj_if_gt 118 143 X dL_areCardsSo_115 (by decide) rfl (fun h9 => absurd h9 (by decide)) (fun _ => ?_)
  refine zj_aload_n 119 X 0 dL_areCardsSo_118 rfl rfl ?_
  refine zj_iload 121 X 8 dL_areCardsSo_119 rfl rfl ?_
  refine zc_iq 124 (w := (-1)) 12 72 (zr_Vx (As := [.int 1]) (rest := []) X (zc_X4_inTrick (l := l) (D := D) (C := C) (a := a) (u := u) (p0 := 1) (hfl := hfl)) zw_L_109 zn_X4_inTrick (zcR_of rfl) zO_S0 FA.1 hA rfl (Nat.le_of_ble_eq_true rfl) dL_areCardsSo_121) (zq_inTrick_1 h) FA hA rfl rfl rfl ?_
  refine zj_if_lt 127 145 X dL_areCardsSo_124 (by decide) rfl (fun _ => ?_) (fun h9 => absurd h9 (by decide))
  refine zj_lload 147 X 4 dL_areCardsSo_145 rfl rfl ?_
  refine zj_lload 149 X 9 dL_areCardsSo_147 rfl rfl ?_
  refine zj_lor 150 X dL_areCardsSo_149 rfl ?_
  refine zj_tl 2851503970 (by decide +kernel) ?_
  refine zj_lstore 152 X (lv1 := [(0, .ref (a 0)), (1, .int 0), (2, .int 1), (3, .int 0), (4, .long 2851503970), (6, .int 10), (7, .int 0), (8, .int 0), (9, .int 1), (10, .long 2690661122)]) [1, 2, 3, 4, 0, 5, 6, 7, 8, 9] dL_areCardsSo_150 (by decide) rfl rfl ?_
  refine zj_iload 154 X 5 dL_areCardsSo_152 rfl rfl ?_
  refine zj_lload 156 X 9 dL_areCardsSo_154 rfl rfl ?_
  refine zc_iv 159 10 (zr_S (As := [.long 2690661122]) (rest := [.int 10]) X (zc_L_many (l := l) (D := D) (C := C) (p0 := 2690661122)) zw_L_84 zn_L_many (zcR_of rfl) zs0 rfl (Nat.le_of_ble_eq_true rfl) dL_areCardsSo_156) (by decide +kernel) rfl ?_
  refine zj_iadd 160 X dL_areCardsSo_159 rfl ?_
  refine zj_ti 20 (by decide +kernel) ?_
  refine zj_istore 162 X (lv1 := [(0, .ref (a 0)), (1, .int 0), (2, .int 1), (3, .int 0), (4, .long 2851503970), (6, .int 20), (7, .int 0), (8, .int 0), (9, .int 1), (10, .long 2690661122)]) [1, 2, 3, 4, 5, 0, 6, 7, 8, 9] dL_areCardsSo_160 (by decide) rfl rfl ?_
  refine zj_iinc 165 X (v := 2) (lv1 := [(0, .ref (a 0)), (1, .int 0), (2, .int 1), (3, .int 0), (4, .long 2851503970), (6, .int 20), (7, .int 0), (8, .int 0), (9, .int 2), (10, .long 2690661122)]) 8 [1, 2, 3, 4, 5, 6, 7, 8, 0, 9] dL_areCardsSo_162 rfl (by decide) (by decide) rfl rfl ?_
  refine zj_goto 59 X dL_areCardsSo_165 (by decide) ?_
  refine zj_iload 61 X 8 dL_areCardsSo_59 rfl rfl ?_
  refine zj_iconst 62 X (v := 3) dL_areCardsSo_61 (by decide) rfl ?_
  refine zj_icmp_ge 65 168 X dL_areCardsSo_62 (by decide) rfl (fun h9 => absurd h9 (by decide)) (fun _ => ?_)
  refine zj_aload_n 66 X 0 dL_areCardsSo_65 rfl rfl ?_
  refine zj_iload 68 X 8 dL_areCardsSo_66 rfl rfl ?_
  refine zc_lq 71 (w := 1443397788) 13 78 (zr_Vx (As := [.int 2]) (rest := []) X (zc_X4_hand (l := l) (D := D) (C := C) (a := a) (u := u) (p0 := 2) (hfl := hfl)) zw_L_76 zn_X4_hand (zcR_of rfl) zO_S0 FA.1 hA rfl (Nat.le_of_ble_eq_true rfl) dL_areCardsSo_68) (zq_hand_2 h) FA hA rfl rfl rfl ?_
  refine zj_lstore 73 X (lv1 := [(0, .ref (a 0)), (1, .int 0), (2, .int 1), (3, .int 0), (4, .long 2851503970), (6, .int 20), (7, .int 0), (8, .int 0), (9, .int 2), (10, .long 1443397788)]) [1, 2, 3, 4, 5, 6, 7, 8, 9, 0] dL_areCardsSo_71 (by decide) rfl rfl ?_
  refine zj_iload 75 X 7 dL_areCardsSo_73 rfl rfl ?_
  refine zj_aload_n 76 X 0 dL_areCardsSo_75 rfl rfl ?_
  refine zj_iload 78 X 8 dL_areCardsSo_76 rfl rfl ?_
  refine zc_iq 81 (w := (-1)) 14 84 (zr_Vx (As := [.int 2]) (rest := [.int 0]) X (zc_X4_inTrick (l := l) (D := D) (C := C) (a := a) (u := u) (p0 := 2) (hfl := hfl)) zw_L_109 zn_X4_inTrick (zcR_of rfl) zO_S0 FA.1 hA rfl (Nat.le_of_ble_eq_true rfl) dL_areCardsSo_78) (zq_inTrick_2 h) FA hA rfl rfl rfl ?_
  refine zj_if_lt 84 88 X dL_areCardsSo_81 (by decide) rfl (fun _ => ?_) (fun h9 => absurd h9 (by decide))
  refine zj_iconst 89 X (v := 0) dL_areCardsSo_88 (by decide) rfl ?_
  refine zj_iadd 90 X dL_areCardsSo_89 rfl ?_
  refine zj_ti 0 (by decide +kernel) ?_
  refine zj_istore 92 X (lv1 := [(0, .ref (a 0)), (1, .int 0), (2, .int 1), (3, .int 0), (4, .long 2851503970), (6, .int 20), (7, .int 0), (8, .int 0), (9, .int 2), (10, .long 1443397788)]) [1, 2, 3, 4, 5, 6, 7, 0, 8, 9] dL_areCardsSo_90 (by decide) rfl rfl ?_
  refine zj_lload 94 X 4 dL_areCardsSo_92 rfl rfl ?_
  refine zj_lload 96 X 9 dL_areCardsSo_94 rfl rfl ?_
  refine zj_land 97 X dL_areCardsSo_96 rfl ?_
  refine zj_tl 0 (by decide +kernel) ?_
  refine zj_lconst 98 X (v := 0) dL_areCardsSo_97 (by decide) rfl ?_
  refine zj_lcmp 99 X dL_areCardsSo_98 rfl ?_
  refine zj_ti 0 (by decide +kernel) ?_
  refine zj_if_ne 102 143 X dL_areCardsSo_99 (by decide) rfl (fun h9 => absurd h9 (by decide)) (fun _ => ?_)
  refine zj_lload 104 X 9 dL_areCardsSo_102 rfl rfl ?_
  refine zj_lconst 105 X (v := 0) dL_areCardsSo_104 (by decide) rfl ?_
  refine zj_lcmp 106 X dL_areCardsSo_105 rfl ?_
  refine zj_ti 1 (by decide +kernel) ?_
  refine zj_if_lt 109 143 X dL_areCardsSo_106 (by decide) rfl (fun h9 => absurd h9 (by decide)) (fun _ => ?_)
  refine zj_lload 111 X 9 dL_areCardsSo_109 rfl rfl ?_
  refine zj_ldc2 114 X (v := 4294967295) (zG_t 582 (by decide +kernel) rfl) dL_areCardsSo_111 rfl ?_
  refine zj_lcmp 115 X dL_areCardsSo_114 rfl ?_
  refine zj_ti (-1) (by decide +kernel) ?_
  refine zj_if_gt 118 143 X dL_areCardsSo_115 (by decide) rfl (fun h9 => absurd h9 (by decide)) (fun _ => ?_)
  refine zj_aload_n 119 X 0 dL_areCardsSo_118 rfl rfl ?_
  refine zj_iload 121 X 8 dL_areCardsSo_119 rfl rfl ?_
  refine zc_iq 124 (w := (-1)) 15 90 (zr_Vx (As := [.int 2]) (rest := []) X (zc_X4_inTrick (l := l) (D := D) (C := C) (a := a) (u := u) (p0 := 2) (hfl := hfl)) zw_L_109 zn_X4_inTrick (zcR_of rfl) zO_S0 FA.1 hA rfl (Nat.le_of_ble_eq_true rfl) dL_areCardsSo_121) (zq_inTrick_2 h) FA hA rfl rfl rfl ?_
  refine zj_if_lt 127 145 X dL_areCardsSo_124 (by decide) rfl (fun _ => ?_) (fun h9 => absurd h9 (by decide))
  refine zj_lload 147 X 4 dL_areCardsSo_145 rfl rfl ?_
  refine zj_lload 149 X 9 dL_areCardsSo_147 rfl rfl ?_
  refine zj_lor 150 X dL_areCardsSo_149 rfl ?_
  refine zj_tl 4294901758 (by decide +kernel) ?_
  refine zj_lstore 152 X (lv1 := [(0, .ref (a 0)), (1, .int 0), (2, .int 1), (3, .int 0), (4, .long 4294901758), (6, .int 20), (7, .int 0), (8, .int 0), (9, .int 2), (10, .long 1443397788)]) [1, 2, 3, 4, 0, 5, 6, 7, 8, 9] dL_areCardsSo_150 (by decide) rfl rfl ?_
  refine zj_iload 154 X 5 dL_areCardsSo_152 rfl rfl ?_
  refine zj_lload 156 X 9 dL_areCardsSo_154 rfl rfl ?_
  refine zc_iv 159 10 (zr_S (As := [.long 1443397788]) (rest := [.int 20]) X (zc_L_many (l := l) (D := D) (C := C) (p0 := 1443397788)) zw_L_84 zn_L_many (zcR_of rfl) zs0 rfl (Nat.le_of_ble_eq_true rfl) dL_areCardsSo_156) (by decide +kernel) rfl ?_
  refine zj_iadd 160 X dL_areCardsSo_159 rfl ?_
  refine zj_ti 30 (by decide +kernel) ?_
  refine zj_istore 162 X (lv1 := [(0, .ref (a 0)), (1, .int 0), (2, .int 1), (3, .int 0), (4, .long 4294901758), (6, .int 30), (7, .int 0), (8, .int 0), (9, .int 2), (10, .long 1443397788)]) [1, 2, 3, 4, 5, 0, 6, 7, 8, 9] dL_areCardsSo_160 (by decide) rfl rfl ?_
  refine zj_iinc 165 X (v := 3) (lv1 := [(0, .ref (a 0)), (1, .int 0), (2, .int 1), (3, .int 0), (4, .long 4294901758), (6, .int 30), (7, .int 0), (8, .int 0), (9, .int 3), (10, .long 1443397788)]) 8 [1, 2, 3, 4, 5, 6, 7, 8, 0, 9] dL_areCardsSo_162 rfl (by decide) (by decide) rfl rfl ?_
  refine zj_goto 59 X dL_areCardsSo_165 (by decide) ?_
  refine zj_iload 61 X 8 dL_areCardsSo_59 rfl rfl ?_
  refine zj_iconst 62 X (v := 3) dL_areCardsSo_61 (by decide) rfl ?_
  refine zj_icmp_ge 65 168 X dL_areCardsSo_62 (by decide) rfl (fun _ => ?_) (fun h9 => absurd h9 (by decide))
  refine zj_iload_n 169 X 2 dL_areCardsSo_168 rfl rfl ?_
  refine zj_if_ge 172 176 X dL_areCardsSo_169 (by decide) rfl (fun _ => ?_) (fun h9 => absurd h9 (by decide))
  refine zj_iconst 177 X (v := 0) dL_areCardsSo_176 (by decide) rfl ?_
  refine zj_iload_n 178 X 1 dL_areCardsSo_177 rfl rfl ?_
  refine zj_bipush 180 X (v := 6) dL_areCardsSo_178 (by decide) rfl ?_
  refine zj_icmp_ne 183 187 X dL_areCardsSo_180 (by decide) rfl (fun _ => ?_) (fun h9 => absurd h9 (by decide))
  refine zj_iconst 188 X (v := 0) dL_areCardsSo_187 (by decide) rfl ?_
  refine zj_icmp_ne 191 270 X dL_areCardsSo_188 (by decide) rfl (fun h9 => absurd h9 (by decide)) (fun _ => ?_)
  refine zj_iload 193 X 5 dL_areCardsSo_191 rfl rfl ?_
  refine zj_iload_n 194 X 1 dL_areCardsSo_193 rfl rfl ?_
  refine zj_iconst 195 X (v := 3) dL_areCardsSo_194 (by decide) rfl ?_
  refine zj_icmp_ne 198 203 X dL_areCardsSo_195 (by decide) rfl (fun _ => ?_) (fun h9 => absurd h9 (by decide))
  refine zj_bipush 205 X (v := 30) dL_areCardsSo_203 (by decide) rfl ?_
  refine zj_iconst 206 X (v := 3) dL_areCardsSo_205 (by decide) rfl ?_
  refine zj_iload_n 207 X 3 dL_areCardsSo_206 rfl rfl ?_
  refine zj_imul 208 X dL_areCardsSo_207 rfl ?_
  refine zj_ti 0 (by decide +kernel) ?_
  refine zj_isub 209 X dL_areCardsSo_208 rfl ?_
  refine zj_ti 30 (by decide +kernel) ?_
  refine zj_iload 211 X 7 dL_areCardsSo_209 rfl rfl ?_
  refine zj_isub 212 X dL_areCardsSo_211 rfl ?_
  refine zj_ti 30 (by decide +kernel) ?_
  refine zj_icmp_ne 215 270 X dL_areCardsSo_212 (by decide) rfl (fun h9 => absurd h9 (by decide)) (fun _ => ?_)
  refine zj_iload 217 X 7 dL_areCardsSo_215 rfl rfl ?_
  refine zj_iconst 218 X (v := 3) dL_areCardsSo_217 (by decide) rfl ?_
  refine zj_icmp_ge 221 270 X dL_areCardsSo_218 (by decide) rfl (fun h9 => absurd h9 (by decide)) (fun _ => ?_)
  refine zj_iload_n 222 X 1 dL_areCardsSo_221 rfl rfl ?_
  refine zj_iconst 223 X (v := 5) dL_areCardsSo_222 (by decide) rfl ?_
  refine zj_icmp_eq 226 231 X dL_areCardsSo_223 (by decide) rfl (fun h9 => absurd h9 (by decide)) (fun _ => ?_)
  refine zj_iload 228 X 7 dL_areCardsSo_226 rfl rfl ?_
  refine zj_if_ne 231 270 X dL_areCardsSo_228 (by decide) rfl (fun h9 => absurd h9 (by decide)) (fun _ => ?_)
  refine zj_iload 233 X 6 dL_areCardsSo_231 rfl rfl ?_
  refine zj_bipush 235 X (v := 120) dL_areCardsSo_233 (by decide) rfl ?_
  refine zj_icmp_gt 238 270 X dL_areCardsSo_235 (by decide) rfl (fun h9 => absurd h9 (by decide)) (fun _ => ?_)
  refine zj_iload_n 239 X 1 dL_areCardsSo_238 rfl rfl ?_
  refine zj_bipush 241 X (v := 6) dL_areCardsSo_239 (by decide) rfl ?_
  refine zj_icmp_ne 244 257 X dL_areCardsSo_241 (by decide) rfl (fun _ => ?_) (fun h9 => absurd h9 (by decide))
  refine zj_iload_n 258 X 1 dL_areCardsSo_257 rfl rfl ?_
  refine zj_iconst 259 X (v := 5) dL_areCardsSo_258 (by decide) rfl ?_
  refine zj_icmp_ge 262 266 X dL_areCardsSo_259 (by decide) rfl (fun h9 => absurd h9 (by decide)) (fun _ => ?_)
  refine zj_iload_n 263 X 3 dL_areCardsSo_262 rfl rfl ?_
  refine zj_if_ne 266 270 X dL_areCardsSo_263 (by decide) rfl (fun h9 => absurd h9 (by decide)) (fun _ => ?_)
  refine zj_iconst 267 X (v := 1) dL_areCardsSo_266 (by decide) rfl ?_
  refine zj_goto 271 X dL_areCardsSo_267 (by decide) ?_
  refine zj_istore 273 X (lv1 := [(0, .ref (a 0)), (1, .int 0), (2, .int 1), (3, .int 0), (4, .long 4294901758), (6, .int 30), (7, .int 0), (8, .int 0), (9, .int 1), (10, .long 1443397788)]) [1, 2, 3, 4, 5, 6, 7, 8, 0, 9] dL_areCardsSo_271 (by decide) rfl rfl ?_
  refine zj_aload_n 274 X 0 dL_areCardsSo_273 rfl rfl ?_
  refine zc_gl 277 16 96 1 (zr_Lw (n := 1) (As := [.ref (a 0)]) (rest := []) X (zc_L_playable (l := l) (D := D) (C := C) (a := a) (u := u) h hfl) (zG_t 557 (by decide +kernel) rfl) (zG_t 558 (by decide +kernel) rfl) (zG_t 0 (by decide +kernel) rfl) (zG_t 559 (by decide +kernel) rfl) ⟨by decide +kernel, by decide +kernel, by decide +kernel⟩ (zcR_of rfl) FA.1 hA rfl (Nat.le_of_ble_eq_true rfl) dL_areCardsSo_274) FA hA rfl rfl rfl rfl ?_
  have X := zXg (g' := 1) X
  refine zj_lstore 279 X (lv1 := [(0, .ref (a 0)), (1, .int 0), (2, .int 1), (3, .int 0), (4, .long 4294901758), (6, .int 30), (7, .int 0), (8, .int 0), (9, .int 1), (10, .long (-99999))]) [1, 2, 3, 4, 5, 6, 7, 8, 9, 0] dL_areCardsSo_277 (by decide) rfl rfl ?_
  refine zj_iload 281 X 8 dL_areCardsSo_279 rfl rfl ?_
  refine zj_if_eq 284 345 X dL_areCardsSo_281 (by decide) rfl (fun h9 => absurd h9 (by decide)) (fun _ => ?_)
  refine zj_iload_n 285 X 1 dL_areCardsSo_284 rfl rfl ?_
  refine zj_iconst 286 X (v := 5) dL_areCardsSo_285 (by decide) rfl ?_
  refine zj_icmp_ne 289 332 X dL_areCardsSo_286 (by decide) rfl (fun _ => ?_) (fun h9 => absurd h9 (by decide))
  refine zj_lload 334 X 9 dL_areCardsSo_332 rfl rfl ?_
  refine zj_ldc2 337 X (v := (-99999)) (zG_t 560 (by decide +kernel) rfl) dL_areCardsSo_334 rfl ?_
  refine zj_lcmp 338 X dL_areCardsSo_337 rfl ?_
  refine zj_ti 0 (by decide +kernel) ?_
  refine zj_if_ne 341 345 X dL_areCardsSo_338 (by decide) rfl (fun h9 => absurd h9 (by decide)) (fun _ => ?_)
  refine zj_iconst 342 X (v := 1) dL_areCardsSo_341 (by decide) rfl ?_
  refine zj_goto 346 X dL_areCardsSo_342 (by decide) ?_
  exact ze_gz (by decide) (by decide) (by decide) X Y (by decide) rfl dL_areCardsSo_346
abbrev zR_L_areAlike : Room := { frames := 8, cells := 46, slots := 276, locals := 132 }
set_option maxHeartbeats 40000000 in
set_option maxRecDepth 100000 in
theorem zc_L_areAlike {l : Launch} {D : va_G} {C : ClassId × ClassId} {a b : Nat → Nat} {u : zU} (h : zU1 u) (hfl : l.stackTraces = false) : zk_L l (.code yL_areAlike cL_areAlike 4 (some .boolean)) yL_areAlike zR_L_areAlike 46 276 [.ref (a 0), .ref (b 0)] (zS C a u ++ zS C b u) D C (zQi D (zS C a u ++ zS C b u) 4 1) := by
  refine zk_l (by decide) (Nat.le_of_ble_eq_true rfl) ?_
  intro p e s m below meth c A X Y hD hA
  have FA : zFr D A (zS C a u ++ zS C b u) (zS C a u) := zFr_L hD
  have FB : zFr D A (zS C a u ++ zS C b u) (zS C b u) := zFr_R hD
  show zJ _ _ _ _ _ _ _ _ _ _ _ _ _ _ _ _ _ 0 [(0, .ref (a 0)), (1, .ref (b 0))] []
  refine zj_aload_n 1 X 0 dL_areAlike_0 rfl rfl ?_
  refine zc_iv 4 0 (zr_V (As := []) (rest := []) (wsub := zS C a u) X (zc_X4_phase (l := l) (D := D) (C := C) (a := a) (u := u)) zw_L_60 zn_X4_phase (zcR_of rfl) (zcO_l zO_S0) (fun _ h => zP_l h) rfl (Nat.le_of_ble_eq_true rfl) dL_areAlike_1) (zq_phase h) rfl ?_
  refine zj_aload_n 5 X 1 dL_areAlike_4 rfl rfl ?_
  refine zc_iv 8 0 (zr_V (As := []) (rest := [.int 0]) (wsub := zS C b u) X (zc_X4_phase (l := l) (D := D) (C := C) (a := b) (u := u)) zw_L_60 zn_X4_phase (zcR_of rfl) (zcO_r zO_S0) (fun _ h => zP_r h) rfl (Nat.le_of_ble_eq_true rfl) dL_areAlike_5) (zq_phase h) rfl ?_
  refine zj_icmp_ne 11 82 X dL_areAlike_8 (by decide) rfl (fun h9 => absurd h9 (by decide)) (fun _ => ?_)
  refine zj_aload_n 12 X 0 dL_areAlike_11 rfl rfl ?_
  refine zc_iv 15 1 (zr_V (As := []) (rest := []) (wsub := zS C a u) X (zc_X4_onTurn (l := l) (D := D) (C := C) (a := a) (u := u)) zw_L_73 zn_X4_onTurn (zcR_of rfl) (zcO_l zO_S0) (fun _ h => zP_l h) rfl (Nat.le_of_ble_eq_true rfl) dL_areAlike_12) (zq_onTurn h) rfl ?_
  refine zj_aload_n 16 X 1 dL_areAlike_15 rfl rfl ?_
  refine zc_iv 19 1 (zr_V (As := []) (rest := [.int 1]) (wsub := zS C b u) X (zc_X4_onTurn (l := l) (D := D) (C := C) (a := b) (u := u)) zw_L_73 zn_X4_onTurn (zcR_of rfl) (zcO_r zO_S0) (fun _ h => zP_r h) rfl (Nat.le_of_ble_eq_true rfl) dL_areAlike_16) (zq_onTurn h) rfl ?_
  refine zj_icmp_ne 22 82 X dL_areAlike_19 (by decide) rfl (fun h9 => absurd h9 (by decide)) (fun _ => ?_)
  refine zj_aload_n 23 X 0 dL_areAlike_22 rfl rfl ?_
  refine zc_iv 26 0 (zr_V (As := []) (rest := []) (wsub := zS C a u) X (zc_X4_latestBid (l := l) (D := D) (C := C) (a := a) (u := u)) zw_L_67 zn_X4_latestBid (zcR_of rfl) (zcO_l zO_S0) (fun _ h => zP_l h) rfl (Nat.le_of_ble_eq_true rfl) dL_areAlike_23) (zq_latestBid h) rfl ?_
  refine zj_aload_n 27 X 1 dL_areAlike_26 rfl rfl ?_
  refine zc_iv 30 0 (zr_V (As := []) (rest := [.int 0]) (wsub := zS C b u) X (zc_X4_latestBid (l := l) (D := D) (C := C) (a := b) (u := u)) zw_L_67 zn_X4_latestBid (zcR_of rfl) (zcO_r zO_S0) (fun _ h => zP_r h) rfl (Nat.le_of_ble_eq_true rfl) dL_areAlike_27) (zq_latestBid h) rfl ?_
  refine zj_icmp_ne 33 82 X dL_areAlike_30 (by decide) rfl (fun h9 => absurd h9 (by decide)) (fun _ => ?_)
  refine zj_aload_n 34 X 0 dL_areAlike_33 rfl rfl ?_
  refine zc_iv 37 (-1) (zr_V (As := []) (rest := []) (wsub := zS C a u) X (zc_X4_declarer (l := l) (D := D) (C := C) (a := a) (u := u)) zw_L_88 zn_X4_declarer (zcR_of rfl) (zcO_l zO_S0) (fun _ h => zP_l h) rfl (Nat.le_of_ble_eq_true rfl) dL_areAlike_34) (zq_declarer h) rfl ?_
  refine zj_aload_n 38 X 1 dL_areAlike_37 rfl rfl ?_
  refine zc_iv 41 (-1) (zr_V (As := []) (rest := [.int (-1)]) (wsub := zS C b u) X (zc_X4_declarer (l := l) (D := D) (C := C) (a := b) (u := u)) zw_L_88 zn_X4_declarer (zcR_of rfl) (zcO_r zO_S0) (fun _ h => zP_r h) rfl (Nat.le_of_ble_eq_true rfl) dL_areAlike_38) (zq_declarer h) rfl ?_
  refine zj_icmp_ne 44 82 X dL_areAlike_41 (by decide) rfl (fun h9 => absurd h9 (by decide)) (fun _ => ?_)
  refine zj_aload_n 45 X 0 dL_areAlike_44 rfl rfl ?_
  refine zc_iv 48 (-1) (zr_V (As := []) (rest := []) (wsub := zS C a u) X (zc_X4_contract (l := l) (D := D) (C := C) (a := a) (u := u)) zw_L_91 zn_X4_contract (zcR_of rfl) (zcO_l zO_S0) (fun _ h => zP_l h) rfl (Nat.le_of_ble_eq_true rfl) dL_areAlike_45) (zq_contract h) rfl ?_
  refine zj_aload_n 49 X 1 dL_areAlike_48 rfl rfl ?_
  refine zc_iv 52 (-1) (zr_V (As := []) (rest := [.int (-1)]) (wsub := zS C b u) X (zc_X4_contract (l := l) (D := D) (C := C) (a := b) (u := u)) zw_L_91 zn_X4_contract (zcR_of rfl) (zcO_r zO_S0) (fun _ h => zP_r h) rfl (Nat.le_of_ble_eq_true rfl) dL_areAlike_49) (zq_contract h) rfl ?_
  refine zj_icmp_ne 55 82 X dL_areAlike_52 (by decide) rfl (fun h9 => absurd h9 (by decide)) (fun _ => ?_)
  refine zj_aload_n 56 X 0 dL_areAlike_55 rfl rfl ?_
  refine zc_gi 59 1 6 1 (zr_Lw (n := 1) (As := [.ref (a 0)]) (rest := []) X (zc_L_value (l := l) (D := D) (C := C) (a := a) (u := u) h hfl) (zG_t 549 (by decide +kernel) rfl) (zG_t 550 (by decide +kernel) rfl) (zG_t 0 (by decide +kernel) rfl) (zG_t 551 (by decide +kernel) rfl) ⟨by decide +kernel, by decide +kernel, by decide +kernel⟩ (zcR_of rfl) FA.1 hA rfl (Nat.le_of_ble_eq_true rfl) dL_areAlike_56) FA hA rfl rfl rfl rfl ?_
  have X := zXg (g' := 1) X
  refine zj_aload_n 60 X 1 dL_areAlike_59 rfl rfl ?_
  refine zc_gi 63 2 12 2 (zr_Lw (n := 1) (As := [.ref (b 0)]) (rest := [.int (-99999)]) X (zc_L_value (l := l) (D := D) (C := C) (a := b) (u := u) h hfl) (zG_t 549 (by decide +kernel) rfl) (zG_t 550 (by decide +kernel) rfl) (zG_t 0 (by decide +kernel) rfl) (zG_t 551 (by decide +kernel) rfl) ⟨by decide +kernel, by decide +kernel, by decide +kernel⟩ (zcR_of rfl) FB.1 hA rfl (Nat.le_of_ble_eq_true rfl) dL_areAlike_60) FB hA rfl rfl rfl rfl ?_
  have X := zXg (g' := 2) X
  refine zj_icmp_ne 66 82 X dL_areAlike_63 (by decide) rfl (fun h9 => absurd h9 (by decide)) (fun _ => ?_)
  refine zj_aload_n 67 X 0 dL_areAlike_66 rfl rfl ?_
  refine zc_gl 70 3 18 3 (zr_Lw (n := 1) (As := [.ref (a 0)]) (rest := []) X (zc_L_playable (l := l) (D := D) (C := C) (a := a) (u := u) h hfl) (zG_t 557 (by decide +kernel) rfl) (zG_t 558 (by decide +kernel) rfl) (zG_t 0 (by decide +kernel) rfl) (zG_t 559 (by decide +kernel) rfl) ⟨by decide +kernel, by decide +kernel, by decide +kernel⟩ (zcR_of rfl) FA.1 hA rfl (Nat.le_of_ble_eq_true rfl) dL_areAlike_67) FA hA rfl rfl rfl rfl ?_
  have X := zXg (g' := 3) X
  refine zj_aload_n 71 X 1 dL_areAlike_70 rfl rfl ?_
  refine zc_gl 74 4 24 4 (zr_Lw (n := 1) (As := [.ref (b 0)]) (rest := [.long (-99999)]) X (zc_L_playable (l := l) (D := D) (C := C) (a := b) (u := u) h hfl) (zG_t 557 (by decide +kernel) rfl) (zG_t 558 (by decide +kernel) rfl) (zG_t 0 (by decide +kernel) rfl) (zG_t 559 (by decide +kernel) rfl) ⟨by decide +kernel, by decide +kernel, by decide +kernel⟩ (zcR_of rfl) FB.1 hA rfl (Nat.le_of_ble_eq_true rfl) dL_areAlike_71) FB hA rfl rfl rfl rfl ?_
  have X := zXg (g' := 4) X
  refine zj_lcmp 75 X dL_areAlike_74 rfl ?_
  refine zj_ti 0 (by decide +kernel) ?_
  refine zj_if_ne 78 82 X dL_areAlike_75 (by decide) rfl (fun h9 => absurd h9 (by decide)) (fun _ => ?_)
  refine zj_iconst 79 X (v := 1) dL_areAlike_78 (by decide) rfl ?_
  refine zj_goto 83 X dL_areAlike_79 (by decide) ?_
  refine zj_istore_n 84 X (lv1 := [(0, .ref (a 0)), (1, .ref (b 0)), (2, .int 1)]) [1, 2, 0] dL_areAlike_83 (by decide) rfl rfl ?_
  refine zj_iconst 85 X (v := 0) dL_areAlike_84 (by decide) rfl ?_
  refine zj_istore_n 86 X (lv1 := [(0, .ref (a 0)), (1, .ref (b 0)), (2, .int 1), (3, .int 0)]) [1, 2, 3, 0] dL_areAlike_85 (by decide) rfl rfl ?_
  refine zj_iload_n 87 X 3 dL_areAlike_86 rfl rfl ?_
  refine zj_iconst 88 X (v := 3) dL_areAlike_87 (by decide) rfl ?_
  refine zj_icmp_ge 91 188 X dL_areAlike_88 (by decide) rfl (fun h9 => absurd h9 (by decide)) (fun _ => ?_)
  refine zj_iload_n 92 X 2 dL_areAlike_91 rfl rfl ?_
  refine zj_if_eq 95 188 X dL_areAlike_92 (by decide) rfl (fun h9 => absurd h9 (by decide)) (fun _ => ?_)
  refine zj_aload_n 96 X 0 dL_areAlike_95 rfl rfl ?_
  refine zj_iload_n 97 X 3 dL_areAlike_96 rfl rfl ?_
  refine zc_lq 100 (w := 160842848) 5 30 (zr_Vx (As := [.int 0]) (rest := []) X (zc_X4_hand (l := l) (D := D) (C := C) (a := a) (u := u) (p0 := 0) (hfl := hfl)) zw_L_76 zn_X4_hand (zcR_of rfl) zO_S0 FA.1 hA rfl (Nat.le_of_ble_eq_true rfl) dL_areAlike_97) (zq_hand_0 h) FA hA rfl rfl rfl ?_
  refine zj_aload_n 101 X 1 dL_areAlike_100 rfl rfl ?_
  refine zj_iload_n 102 X 3 dL_areAlike_101 rfl rfl ?_
  refine zc_lq 105 (w := 160842848) 6 36 (zr_Vx (As := [.int 0]) (rest := [.long 160842848]) X (zc_X4_hand (l := l) (D := D) (C := C) (a := b) (u := u) (p0 := 0) (hfl := hfl)) zw_L_76 zn_X4_hand (zcR_of rfl) zO_S0 FB.1 hA rfl (Nat.le_of_ble_eq_true rfl) dL_areAlike_102) (zq_hand_0 h) FB hA rfl rfl rfl ?_
  refine zj_lcmp 106 X dL_areAlike_105 rfl ?_
  refine zj_ti 0 (by decide +kernel) ?_
  refine zj_if_ne 109 180 X dL_areAlike_106 (by decide) rfl (fun h9 => absurd h9 (by decide)) (fun _ => ?_)
  refine zj_aload_n 110 X 0 dL_areAlike_109 rfl rfl ?_
  refine zj_iload_n 111 X 3 dL_areAlike_110 rfl rfl ?_
  refine zc_iq 114 (w := 0) 7 42 (zr_Vx (As := [.int 0]) (rest := []) X (zc_X4_points (l := l) (D := D) (C := C) (a := a) (u := u) (p0 := 0) (hfl := hfl)) zw_L_100 zn_X4_points (zcR_of rfl) zO_S0 FA.1 hA rfl (Nat.le_of_ble_eq_true rfl) dL_areAlike_111) (zq_points_0 h) FA hA rfl rfl rfl ?_
  refine zj_aload_n 115 X 1 dL_areAlike_114 rfl rfl ?_
  refine zj_iload_n 116 X 3 dL_areAlike_115 rfl rfl ?_
  refine zc_iq 119 (w := 0) 8 48 (zr_Vx (As := [.int 0]) (rest := [.int 0]) X (zc_X4_points (l := l) (D := D) (C := C) (a := b) (u := u) (p0 := 0) (hfl := hfl)) zw_L_100 zn_X4_points (zcR_of rfl) zO_S0 FB.1 hA rfl (Nat.le_of_ble_eq_true rfl) dL_areAlike_116) (zq_points_0 h) FB hA rfl rfl rfl ?_
  refine zj_icmp_ne 122 180 X dL_areAlike_119 (by decide) rfl (fun h9 => absurd h9 (by decide)) (fun _ => ?_)
  refine zj_aload_n 123 X 0 dL_areAlike_122 rfl rfl ?_
  refine zj_iload_n 124 X 3 dL_areAlike_123 rfl rfl ?_
  refine zc_iq 127 (w := 0) 9 54 (zr_Vx (As := [.int 0]) (rest := []) X (zc_X4_tricks (l := l) (D := D) (C := C) (a := a) (u := u) (p0 := 0) (hfl := hfl)) zw_L_103 zn_X4_tricks (zcR_of rfl) zO_S0 FA.1 hA rfl (Nat.le_of_ble_eq_true rfl) dL_areAlike_124) (zq_tricks_0 h) FA hA rfl rfl rfl ?_
  refine zj_aload_n 128 X 1 dL_areAlike_127 rfl rfl ?_
  refine zj_iload_n 129 X 3 dL_areAlike_128 rfl rfl ?_
  refine zc_iq 132 (w := 0) 10 60 (zr_Vx (As := [.int 0]) (rest := [.int 0]) X (zc_X4_tricks (l := l) (D := D) (C := C) (a := b) (u := u) (p0 := 0) (hfl := hfl)) zw_L_103 zn_X4_tricks (zcR_of rfl) zO_S0 FB.1 hA rfl (Nat.le_of_ble_eq_true rfl) dL_areAlike_129) (zq_tricks_0 h) FB hA rfl rfl rfl ?_
  refine zj_icmp_ne 135 180 X dL_areAlike_132 (by decide) rfl (fun h9 => absurd h9 (by decide)) (fun _ => ?_)
  refine zj_aload_n 136 X 0 dL_areAlike_135 rfl rfl ?_
  refine zj_iload_n 137 X 3 dL_areAlike_136 rfl rfl ?_
  refine zc_iq 140 (w := 0) 11 66 (zr_Vx (As := [.int 0]) (rest := []) X (zc_X4_score (l := l) (D := D) (C := C) (a := a) (u := u) (p0 := 0) (hfl := hfl)) zw_L_106 zn_X4_score (zcR_of rfl) zO_S0 FA.1 hA rfl (Nat.le_of_ble_eq_true rfl) dL_areAlike_137) (zq_score_0 h) FA hA rfl rfl rfl ?_
  refine zj_aload_n 141 X 1 dL_areAlike_140 rfl rfl ?_
  refine zj_iload_n 142 X 3 dL_areAlike_141 rfl rfl ?_
  refine zc_iq 145 (w := 0) 12 72 (zr_Vx (As := [.int 0]) (rest := [.int 0]) X (zc_X4_score (l := l) (D := D) (C := C) (a := b) (u := u) (p0 := 0) (hfl := hfl)) zw_L_106 zn_X4_score (zcR_of rfl) zO_S0 FB.1 hA rfl (Nat.le_of_ble_eq_true rfl) dL_areAlike_142) (zq_score_0 h) FB hA rfl rfl rfl ?_
  refine zj_icmp_ne 148 180 X dL_areAlike_145 (by decide) rfl (fun h9 => absurd h9 (by decide)) (fun _ => ?_)
  refine zj_aload_n 149 X 0 dL_areAlike_148 rfl rfl ?_
  refine zj_iload_n 150 X 3 dL_areAlike_149 rfl rfl ?_
  refine zc_iq 153 (w := (-1)) 13 78 (zr_Vx (As := [.int 0]) (rest := []) X (zc_X4_inTrick (l := l) (D := D) (C := C) (a := a) (u := u) (p0 := 0) (hfl := hfl)) zw_L_109 zn_X4_inTrick (zcR_of rfl) zO_S0 FA.1 hA rfl (Nat.le_of_ble_eq_true rfl) dL_areAlike_150) (zq_inTrick_0 h) FA hA rfl rfl rfl ?_
  refine zj_aload_n 154 X 1 dL_areAlike_153 rfl rfl ?_
  refine zj_iload_n 155 X 3 dL_areAlike_154 rfl rfl ?_
  refine zc_iq 158 (w := (-1)) 14 84 (zr_Vx (As := [.int 0]) (rest := [.int (-1)]) X (zc_X4_inTrick (l := l) (D := D) (C := C) (a := b) (u := u) (p0 := 0) (hfl := hfl)) zw_L_109 zn_X4_inTrick (zcR_of rfl) zO_S0 FB.1 hA rfl (Nat.le_of_ble_eq_true rfl) dL_areAlike_155) (zq_inTrick_0 h) FB hA rfl rfl rfl ?_
  refine zj_icmp_ne 161 180 X dL_areAlike_158 (by decide) rfl (fun h9 => absurd h9 (by decide)) (fun _ => ?_)
  refine zj_aload_n 162 X 0 dL_areAlike_161 rfl rfl ?_
  refine zj_iload_n 163 X 3 dL_areAlike_162 rfl rfl ?_
  refine zj_iconst 164 X (v := 2) dL_areAlike_163 (by decide) rfl ?_
  refine zc_iq 167 (w := (-1)) 16 96 (zr_Vx (As := [.int 0, .int 2]) (rest := []) X (zc_X4_matadors (l := l) (D := D) (C := C) (a := a) (u := u) (p0 := 0) (p1 := 2) (hfl := hfl)) zw_L_112 zn_X4_matadors (zcR_of rfl) zO_S0 FA.1 hA rfl (Nat.le_of_ble_eq_true rfl) dL_areAlike_164) (zq_matadors_0_2 h) FA hA rfl rfl rfl ?_
  refine zj_aload_n 168 X 1 dL_areAlike_167 rfl rfl ?_
  refine zj_iload_n 169 X 3 dL_areAlike_168 rfl rfl ?_
  refine zj_iconst 170 X (v := 2) dL_areAlike_169 (by decide) rfl ?_
  refine zc_iq 173 (w := (-1)) 18 108 (zr_Vx (As := [.int 0, .int 2]) (rest := [.int (-1)]) X (zc_X4_matadors (l := l) (D := D) (C := C) (a := b) (u := u) (p0 := 0) (p1 := 2) (hfl := hfl)) zw_L_112 zn_X4_matadors (zcR_of rfl) zO_S0 FB.1 hA rfl (Nat.le_of_ble_eq_true rfl) dL_areAlike_170) (zq_matadors_0_2 h) FB hA rfl rfl rfl ?_
  refine zj_icmp_ne 176 180 X dL_areAlike_173 (by decide) rfl (fun h9 => absurd h9 (by decide)) (fun _ => ?_)
  refine zj_iconst 177 X (v := 1) dL_areAlike_176 (by decide) rfl ?_
  refine zj_goto 181 X dL_areAlike_177 (by decide) ?_
  refine zj_istore_n 182 X (lv1 := [(0, .ref (a 0)), (1, .ref (b 0)), (2, .int 1), (3, .int 0)]) [1, 2, 0, 3] dL_areAlike_181 (by decide) rfl rfl ?_
  refine zj_iinc 185 X (v := 1) (lv1 := [(0, .ref (a 0)), (1, .ref (b 0)), (2, .int 1), (3, .int 1)]) 3 [1, 2, 3, 0] dL_areAlike_182 rfl (by decide) (by decide) rfl rfl ?_
  refine zj_goto 86 X dL_areAlike_185 (by decide) ?_
  refine zj_iload_n 87 X 3 dL_areAlike_86 rfl rfl ?_
  refine zj_iconst 88 X (v := 3) dL_areAlike_87 (by decide) rfl ?_
  refine zj_icmp_ge 91 188 X dL_areAlike_88 (by decide) rfl (fun h9 => absurd h9 (by decide)) (fun _ => ?_)
  refine zj_iload_n 92 X 2 dL_areAlike_91 rfl rfl ?_
  refine zj_if_eq 95 188 X dL_areAlike_92 (by decide) rfl (fun h9 => absurd h9 (by decide)) (fun _ => ?_)
  refine zj_aload_n 96 X 0 dL_areAlike_95 rfl rfl ?_
  refine zj_iload_n 97 X 3 dL_areAlike_96 rfl rfl ?_
  refine zc_lq 100 (w := 2690661122) 19 114 (zr_Vx (As := [.int 1]) (rest := []) X (zc_X4_hand (l := l) (D := D) (C := C) (a := a) (u := u) (p0 := 1) (hfl := hfl)) zw_L_76 zn_X4_hand (zcR_of rfl) zO_S0 FA.1 hA rfl (Nat.le_of_ble_eq_true rfl) dL_areAlike_97) (zq_hand_1 h) FA hA rfl rfl rfl ?_
  refine zj_aload_n 101 X 1 dL_areAlike_100 rfl rfl ?_
  refine zj_iload_n 102 X 3 dL_areAlike_101 rfl rfl ?_
  refine zc_lq 105 (w := 2690661122) 20 120 (zr_Vx (As := [.int 1]) (rest := [.long 2690661122]) X (zc_X4_hand (l := l) (D := D) (C := C) (a := b) (u := u) (p0 := 1) (hfl := hfl)) zw_L_76 zn_X4_hand (zcR_of rfl) zO_S0 FB.1 hA rfl (Nat.le_of_ble_eq_true rfl) dL_areAlike_102) (zq_hand_1 h) FB hA rfl rfl rfl ?_
  refine zj_lcmp 106 X dL_areAlike_105 rfl ?_
  refine zj_ti 0 (by decide +kernel) ?_
  refine zj_if_ne 109 180 X dL_areAlike_106 (by decide) rfl (fun h9 => absurd h9 (by decide)) (fun _ => ?_)
  refine zj_aload_n 110 X 0 dL_areAlike_109 rfl rfl ?_
  refine zj_iload_n 111 X 3 dL_areAlike_110 rfl rfl ?_
  refine zc_iq 114 (w := 0) 21 126 (zr_Vx (As := [.int 1]) (rest := []) X (zc_X4_points (l := l) (D := D) (C := C) (a := a) (u := u) (p0 := 1) (hfl := hfl)) zw_L_100 zn_X4_points (zcR_of rfl) zO_S0 FA.1 hA rfl (Nat.le_of_ble_eq_true rfl) dL_areAlike_111) (zq_points_1 h) FA hA rfl rfl rfl ?_
  refine zj_aload_n 115 X 1 dL_areAlike_114 rfl rfl ?_
  refine zj_iload_n 116 X 3 dL_areAlike_115 rfl rfl ?_
  refine zc_iq 119 (w := 0) 22 132 (zr_Vx (As := [.int 1]) (rest := [.int 0]) X (zc_X4_points (l := l) (D := D) (C := C) (a := b) (u := u) (p0 := 1) (hfl := hfl)) zw_L_100 zn_X4_points (zcR_of rfl) zO_S0 FB.1 hA rfl (Nat.le_of_ble_eq_true rfl) dL_areAlike_116) (zq_points_1 h) FB hA rfl rfl rfl ?_
  refine zj_icmp_ne 122 180 X dL_areAlike_119 (by decide) rfl (fun h9 => absurd h9 (by decide)) (fun _ => ?_)
  refine zj_aload_n 123 X 0 dL_areAlike_122 rfl rfl ?_
  refine zj_iload_n 124 X 3 dL_areAlike_123 rfl rfl ?_
  refine zc_iq 127 (w := 0) 23 138 (zr_Vx (As := [.int 1]) (rest := []) X (zc_X4_tricks (l := l) (D := D) (C := C) (a := a) (u := u) (p0 := 1) (hfl := hfl)) zw_L_103 zn_X4_tricks (zcR_of rfl) zO_S0 FA.1 hA rfl (Nat.le_of_ble_eq_true rfl) dL_areAlike_124) (zq_tricks_1 h) FA hA rfl rfl rfl ?_
  refine zj_aload_n 128 X 1 dL_areAlike_127 rfl rfl ?_
  refine zj_iload_n 129 X 3 dL_areAlike_128 rfl rfl ?_
  refine zc_iq 132 (w := 0) 24 144 (zr_Vx (As := [.int 1]) (rest := [.int 0]) X (zc_X4_tricks (l := l) (D := D) (C := C) (a := b) (u := u) (p0 := 1) (hfl := hfl)) zw_L_103 zn_X4_tricks (zcR_of rfl) zO_S0 FB.1 hA rfl (Nat.le_of_ble_eq_true rfl) dL_areAlike_129) (zq_tricks_1 h) FB hA rfl rfl rfl ?_
  refine zj_icmp_ne 135 180 X dL_areAlike_132 (by decide) rfl (fun h9 => absurd h9 (by decide)) (fun _ => ?_)
  refine zj_aload_n 136 X 0 dL_areAlike_135 rfl rfl ?_
  refine zj_iload_n 137 X 3 dL_areAlike_136 rfl rfl ?_
  refine zc_iq 140 (w := 0) 25 150 (zr_Vx (As := [.int 1]) (rest := []) X (zc_X4_score (l := l) (D := D) (C := C) (a := a) (u := u) (p0 := 1) (hfl := hfl)) zw_L_106 zn_X4_score (zcR_of rfl) zO_S0 FA.1 hA rfl (Nat.le_of_ble_eq_true rfl) dL_areAlike_137) (zq_score_1 h) FA hA rfl rfl rfl ?_
  refine zj_aload_n 141 X 1 dL_areAlike_140 rfl rfl ?_
  refine zj_iload_n 142 X 3 dL_areAlike_141 rfl rfl ?_
  refine zc_iq 145 (w := 0) 26 156 (zr_Vx (As := [.int 1]) (rest := [.int 0]) X (zc_X4_score (l := l) (D := D) (C := C) (a := b) (u := u) (p0 := 1) (hfl := hfl)) zw_L_106 zn_X4_score (zcR_of rfl) zO_S0 FB.1 hA rfl (Nat.le_of_ble_eq_true rfl) dL_areAlike_142) (zq_score_1 h) FB hA rfl rfl rfl ?_
  refine zj_icmp_ne 148 180 X dL_areAlike_145 (by decide) rfl (fun h9 => absurd h9 (by decide)) (fun _ => ?_)
  refine zj_aload_n 149 X 0 dL_areAlike_148 rfl rfl ?_
  refine zj_iload_n 150 X 3 dL_areAlike_149 rfl rfl ?_
  refine zc_iq 153 (w := (-1)) 27 162 (zr_Vx (As := [.int 1]) (rest := []) X (zc_X4_inTrick (l := l) (D := D) (C := C) (a := a) (u := u) (p0 := 1) (hfl := hfl)) zw_L_109 zn_X4_inTrick (zcR_of rfl) zO_S0 FA.1 hA rfl (Nat.le_of_ble_eq_true rfl) dL_areAlike_150) (zq_inTrick_1 h) FA hA rfl rfl rfl ?_
  refine zj_aload_n 154 X 1 dL_areAlike_153 rfl rfl ?_
  refine zj_iload_n 155 X 3 dL_areAlike_154 rfl rfl ?_
  refine zc_iq 158 (w := (-1)) 28 168 (zr_Vx (As := [.int 1]) (rest := [.int (-1)]) X (zc_X4_inTrick (l := l) (D := D) (C := C) (a := b) (u := u) (p0 := 1) (hfl := hfl)) zw_L_109 zn_X4_inTrick (zcR_of rfl) zO_S0 FB.1 hA rfl (Nat.le_of_ble_eq_true rfl) dL_areAlike_155) (zq_inTrick_1 h) FB hA rfl rfl rfl ?_
  refine zj_icmp_ne 161 180 X dL_areAlike_158 (by decide) rfl (fun h9 => absurd h9 (by decide)) (fun _ => ?_)
  refine zj_aload_n 162 X 0 dL_areAlike_161 rfl rfl ?_
  refine zj_iload_n 163 X 3 dL_areAlike_162 rfl rfl ?_
  refine zj_iconst 164 X (v := 2) dL_areAlike_163 (by decide) rfl ?_
  refine zc_iq 167 (w := 1) 30 180 (zr_Vx (As := [.int 1, .int 2]) (rest := []) X (zc_X4_matadors (l := l) (D := D) (C := C) (a := a) (u := u) (p0 := 1) (p1 := 2) (hfl := hfl)) zw_L_112 zn_X4_matadors (zcR_of rfl) zO_S0 FA.1 hA rfl (Nat.le_of_ble_eq_true rfl) dL_areAlike_164) (zq_matadors_1_2 h) FA hA rfl rfl rfl ?_
  refine zj_aload_n 168 X 1 dL_areAlike_167 rfl rfl ?_
  refine zj_iload_n 169 X 3 dL_areAlike_168 rfl rfl ?_
  refine zj_iconst 170 X (v := 2) dL_areAlike_169 (by decide) rfl ?_
  refine zc_iq 173 (w := 1) 32 192 (zr_Vx (As := [.int 1, .int 2]) (rest := [.int 1]) X (zc_X4_matadors (l := l) (D := D) (C := C) (a := b) (u := u) (p0 := 1) (p1 := 2) (hfl := hfl)) zw_L_112 zn_X4_matadors (zcR_of rfl) zO_S0 FB.1 hA rfl (Nat.le_of_ble_eq_true rfl) dL_areAlike_170) (zq_matadors_1_2 h) FB hA rfl rfl rfl ?_
  refine zj_icmp_ne 176 180 X dL_areAlike_173 (by decide) rfl (fun h9 => absurd h9 (by decide)) (fun _ => ?_)
  refine zj_iconst 177 X (v := 1) dL_areAlike_176 (by decide) rfl ?_
  refine zj_goto 181 X dL_areAlike_177 (by decide) ?_
  refine zj_istore_n 182 X (lv1 := [(0, .ref (a 0)), (1, .ref (b 0)), (2, .int 1), (3, .int 1)]) [1, 2, 0, 3] dL_areAlike_181 (by decide) rfl rfl ?_
  refine zj_iinc 185 X (v := 2) (lv1 := [(0, .ref (a 0)), (1, .ref (b 0)), (2, .int 1), (3, .int 2)]) 3 [1, 2, 3, 0] dL_areAlike_182 rfl (by decide) (by decide) rfl rfl ?_
  refine zj_goto 86 X dL_areAlike_185 (by decide) ?_
  refine zj_iload_n 87 X 3 dL_areAlike_86 rfl rfl ?_
  refine zj_iconst 88 X (v := 3) dL_areAlike_87 (by decide) rfl ?_
  refine zj_icmp_ge 91 188 X dL_areAlike_88 (by decide) rfl (fun h9 => absurd h9 (by decide)) (fun _ => ?_)
  refine zj_iload_n 92 X 2 dL_areAlike_91 rfl rfl ?_
  refine zj_if_eq 95 188 X dL_areAlike_92 (by decide) rfl (fun h9 => absurd h9 (by decide)) (fun _ => ?_)
  refine zj_aload_n 96 X 0 dL_areAlike_95 rfl rfl ?_
  refine zj_iload_n 97 X 3 dL_areAlike_96 rfl rfl ?_
  refine zc_lq 100 (w := 1443397788) 33 198 (zr_Vx (As := [.int 2]) (rest := []) X (zc_X4_hand (l := l) (D := D) (C := C) (a := a) (u := u) (p0 := 2) (hfl := hfl)) zw_L_76 zn_X4_hand (zcR_of rfl) zO_S0 FA.1 hA rfl (Nat.le_of_ble_eq_true rfl) dL_areAlike_97) (zq_hand_2 h) FA hA rfl rfl rfl ?_
  refine zj_aload_n 101 X 1 dL_areAlike_100 rfl rfl ?_
  refine zj_iload_n 102 X 3 dL_areAlike_101 rfl rfl ?_
  refine zc_lq 105 (w := 1443397788) 34 204 (zr_Vx (As := [.int 2]) (rest := [.long 1443397788]) X (zc_X4_hand (l := l) (D := D) (C := C) (a := b) (u := u) (p0 := 2) (hfl := hfl)) zw_L_76 zn_X4_hand (zcR_of rfl) zO_S0 FB.1 hA rfl (Nat.le_of_ble_eq_true rfl) dL_areAlike_102) (zq_hand_2 h) FB hA rfl rfl rfl ?_
  refine zj_lcmp 106 X dL_areAlike_105 rfl ?_
  refine zj_ti 0 (by decide +kernel) ?_
  refine zj_if_ne 109 180 X dL_areAlike_106 (by decide) rfl (fun h9 => absurd h9 (by decide)) (fun _ => ?_)
  refine zj_aload_n 110 X 0 dL_areAlike_109 rfl rfl ?_
  refine zj_iload_n 111 X 3 dL_areAlike_110 rfl rfl ?_
  refine zc_iq 114 (w := 0) 35 210 (zr_Vx (As := [.int 2]) (rest := []) X (zc_X4_points (l := l) (D := D) (C := C) (a := a) (u := u) (p0 := 2) (hfl := hfl)) zw_L_100 zn_X4_points (zcR_of rfl) zO_S0 FA.1 hA rfl (Nat.le_of_ble_eq_true rfl) dL_areAlike_111) (zq_points_2 h) FA hA rfl rfl rfl ?_
  refine zj_aload_n 115 X 1 dL_areAlike_114 rfl rfl ?_
  refine zj_iload_n 116 X 3 dL_areAlike_115 rfl rfl ?_
  refine zc_iq 119 (w := 0) 36 216 (zr_Vx (As := [.int 2]) (rest := [.int 0]) X (zc_X4_points (l := l) (D := D) (C := C) (a := b) (u := u) (p0 := 2) (hfl := hfl)) zw_L_100 zn_X4_points (zcR_of rfl) zO_S0 FB.1 hA rfl (Nat.le_of_ble_eq_true rfl) dL_areAlike_116) (zq_points_2 h) FB hA rfl rfl rfl ?_
  refine zj_icmp_ne 122 180 X dL_areAlike_119 (by decide) rfl (fun h9 => absurd h9 (by decide)) (fun _ => ?_)
  refine zj_aload_n 123 X 0 dL_areAlike_122 rfl rfl ?_
  refine zj_iload_n 124 X 3 dL_areAlike_123 rfl rfl ?_
  refine zc_iq 127 (w := 0) 37 222 (zr_Vx (As := [.int 2]) (rest := []) X (zc_X4_tricks (l := l) (D := D) (C := C) (a := a) (u := u) (p0 := 2) (hfl := hfl)) zw_L_103 zn_X4_tricks (zcR_of rfl) zO_S0 FA.1 hA rfl (Nat.le_of_ble_eq_true rfl) dL_areAlike_124) (zq_tricks_2 h) FA hA rfl rfl rfl ?_
  refine zj_aload_n 128 X 1 dL_areAlike_127 rfl rfl ?_
  refine zj_iload_n 129 X 3 dL_areAlike_128 rfl rfl ?_
  refine zc_iq 132 (w := 0) 38 228 (zr_Vx (As := [.int 2]) (rest := [.int 0]) X (zc_X4_tricks (l := l) (D := D) (C := C) (a := b) (u := u) (p0 := 2) (hfl := hfl)) zw_L_103 zn_X4_tricks (zcR_of rfl) zO_S0 FB.1 hA rfl (Nat.le_of_ble_eq_true rfl) dL_areAlike_129) (zq_tricks_2 h) FB hA rfl rfl rfl ?_
  refine zj_icmp_ne 135 180 X dL_areAlike_132 (by decide) rfl (fun h9 => absurd h9 (by decide)) (fun _ => ?_)
  refine zj_aload_n 136 X 0 dL_areAlike_135 rfl rfl ?_
  refine zj_iload_n 137 X 3 dL_areAlike_136 rfl rfl ?_
  refine zc_iq 140 (w := 0) 39 234 (zr_Vx (As := [.int 2]) (rest := []) X (zc_X4_score (l := l) (D := D) (C := C) (a := a) (u := u) (p0 := 2) (hfl := hfl)) zw_L_106 zn_X4_score (zcR_of rfl) zO_S0 FA.1 hA rfl (Nat.le_of_ble_eq_true rfl) dL_areAlike_137) (zq_score_2 h) FA hA rfl rfl rfl ?_
  refine zj_aload_n 141 X 1 dL_areAlike_140 rfl rfl ?_
  refine zj_iload_n 142 X 3 dL_areAlike_141 rfl rfl ?_
  refine zc_iq 145 (w := 0) 40 240 (zr_Vx (As := [.int 2]) (rest := [.int 0]) X (zc_X4_score (l := l) (D := D) (C := C) (a := b) (u := u) (p0 := 2) (hfl := hfl)) zw_L_106 zn_X4_score (zcR_of rfl) zO_S0 FB.1 hA rfl (Nat.le_of_ble_eq_true rfl) dL_areAlike_142) (zq_score_2 h) FB hA rfl rfl rfl ?_
  refine zj_icmp_ne 148 180 X dL_areAlike_145 (by decide) rfl (fun h9 => absurd h9 (by decide)) (fun _ => ?_)
  refine zj_aload_n 149 X 0 dL_areAlike_148 rfl rfl ?_
  refine zj_iload_n 150 X 3 dL_areAlike_149 rfl rfl ?_
  refine zc_iq 153 (w := (-1)) 41 246 (zr_Vx (As := [.int 2]) (rest := []) X (zc_X4_inTrick (l := l) (D := D) (C := C) (a := a) (u := u) (p0 := 2) (hfl := hfl)) zw_L_109 zn_X4_inTrick (zcR_of rfl) zO_S0 FA.1 hA rfl (Nat.le_of_ble_eq_true rfl) dL_areAlike_150) (zq_inTrick_2 h) FA hA rfl rfl rfl ?_
  refine zj_aload_n 154 X 1 dL_areAlike_153 rfl rfl ?_
  refine zj_iload_n 155 X 3 dL_areAlike_154 rfl rfl ?_
  refine zc_iq 158 (w := (-1)) 42 252 (zr_Vx (As := [.int 2]) (rest := [.int (-1)]) X (zc_X4_inTrick (l := l) (D := D) (C := C) (a := b) (u := u) (p0 := 2) (hfl := hfl)) zw_L_109 zn_X4_inTrick (zcR_of rfl) zO_S0 FB.1 hA rfl (Nat.le_of_ble_eq_true rfl) dL_areAlike_155) (zq_inTrick_2 h) FB hA rfl rfl rfl ?_
  refine zj_icmp_ne 161 180 X dL_areAlike_158 (by decide) rfl (fun h9 => absurd h9 (by decide)) (fun _ => ?_)
  refine zj_aload_n 162 X 0 dL_areAlike_161 rfl rfl ?_
  refine zj_iload_n 163 X 3 dL_areAlike_162 rfl rfl ?_
  refine zj_iconst 164 X (v := 2) dL_areAlike_163 (by decide) rfl ?_
  refine zc_iq 167 (w := (-2)) 44 264 (zr_Vx (As := [.int 2, .int 2]) (rest := []) X (zc_X4_matadors (l := l) (D := D) (C := C) (a := a) (u := u) (p0 := 2) (p1 := 2) (hfl := hfl)) zw_L_112 zn_X4_matadors (zcR_of rfl) zO_S0 FA.1 hA rfl (Nat.le_of_ble_eq_true rfl) dL_areAlike_164) (zq_matadors_2_2 h) FA hA rfl rfl rfl ?_
  refine zj_aload_n 168 X 1 dL_areAlike_167 rfl rfl ?_
  refine zj_iload_n 169 X 3 dL_areAlike_168 rfl rfl ?_
  refine zj_iconst 170 X (v := 2) dL_areAlike_169 (by decide) rfl ?_
  refine zc_iq 173 (w := (-2)) 46 276 (zr_Vx (As := [.int 2, .int 2]) (rest := [.int (-2)]) X (zc_X4_matadors (l := l) (D := D) (C := C) (a := b) (u := u) (p0 := 2) (p1 := 2) (hfl := hfl)) zw_L_112 zn_X4_matadors (zcR_of rfl) zO_S0 FB.1 hA rfl (Nat.le_of_ble_eq_true rfl) dL_areAlike_170) (zq_matadors_2_2 h) FB hA rfl rfl rfl ?_
  refine zj_icmp_ne 176 180 X dL_areAlike_173 (by decide) rfl (fun h9 => absurd h9 (by decide)) (fun _ => ?_)
  refine zj_iconst 177 X (v := 1) dL_areAlike_176 (by decide) rfl ?_
  refine zj_goto 181 X dL_areAlike_177 (by decide) ?_
  refine zj_istore_n 182 X (lv1 := [(0, .ref (a 0)), (1, .ref (b 0)), (2, .int 1), (3, .int 2)]) [1, 2, 0, 3] dL_areAlike_181 (by decide) rfl rfl ?_
  refine zj_iinc 185 X (v := 3) (lv1 := [(0, .ref (a 0)), (1, .ref (b 0)), (2, .int 1), (3, .int 3)]) 3 [1, 2, 3, 0] dL_areAlike_182 rfl (by decide) (by decide) rfl rfl ?_
  refine zj_goto 86 X dL_areAlike_185 (by decide) ?_
  refine zj_iload_n 87 X 3 dL_areAlike_86 rfl rfl ?_
  refine zj_iconst 88 X (v := 3) dL_areAlike_87 (by decide) rfl ?_
  refine zj_icmp_ge 91 188 X dL_areAlike_88 (by decide) rfl (fun _ => ?_) (fun h9 => absurd h9 (by decide))
  refine zj_iload_n 189 X 2 dL_areAlike_188 rfl rfl ?_
  exact ze_gz (by decide) (by decide) (by decide) X Y (by decide) rfl dL_areAlike_189
