/-! the law's own methods, at the state that deal 0 leaves -/
theorem zn_L_low : zcN yL_low cL_low 2 (some .int) 2 := ⟨zG_t 0 (by decide +kernel) rfl, zG_t 240 (by decide +kernel) rfl, by decide +kernel, by decide +kernel, by decide +kernel⟩
theorem zn_L_many : zcN yL_many cL_many 4 (some .int) 1 := ⟨zG_t 0 (by decide +kernel) rfl, zG_t 537 (by decide +kernel) rfl, by decide +kernel, by decide +kernel, by decide +kernel⟩
theorem zn_L_cell : zcN yL_cell cL_cell 2 (some .int) 2 := ⟨zG_t 0 (by decide +kernel) rfl, zG_t 234 (by decide +kernel) rfl, by decide +kernel, by decide +kernel, by decide +kernel⟩
theorem zn_L_act : zcN yL_act cL_act 6 (some .int) 2 := ⟨zG_t 0 (by decide +kernel) rfl, zG_t 237 (by decide +kernel) rfl, by decide +kernel, by decide +kernel, by decide +kernel⟩
theorem zn_L_areAlike : zcN yL_areAlike cL_areAlike 4 (some .boolean) 2 := ⟨zG_t 0 (by decide +kernel) rfl, zG_t 540 (by decide +kernel) rfl, by decide +kernel, by decide +kernel, by decide +kernel⟩
theorem zn_L_areCardsSo : zcN yL_areCardsSo cL_areCardsSo 12 (some .boolean) 1 := ⟨zG_t 0 (by decide +kernel) rfl, zG_t 581 (by decide +kernel) rfl, by decide +kernel, by decide +kernel, by decide +kernel⟩
theorem zn_L_isGameSo : zcN yL_isGameSo cL_isGameSo 8 (some .boolean) 1 := ⟨zG_t 0 (by decide +kernel) rfl, zG_t 586 (by decide +kernel) rfl, by decide +kernel, by decide +kernel, by decide +kernel⟩
theorem zn_L_areScoresSo : zcN yL_areScoresSo cL_areScoresSo 12 (some .boolean) 5 := ⟨zG_t 0 (by decide +kernel) rfl, zG_t 589 (by decide +kernel) rfl, by decide +kernel, by decide +kernel, by decide +kernel⟩
theorem zw_L_55 : zcS RL 55 yL_low := ⟨zG_t 238 (by decide +kernel) rfl, zG_t 239 (by decide +kernel) rfl⟩
theorem zw_L_63 : zcS RL 63 yL_does := ⟨zG_t 242 (by decide +kernel) rfl, zG_t 243 (by decide +kernel) rfl⟩
theorem zw_L_80 : zcS RL 80 yL_card := ⟨zG_t 527 (by decide +kernel) rfl, zG_t 528 (by decide +kernel) rfl⟩
theorem zw_L_84 : zcS RL 84 yL_many := ⟨zG_t 535 (by decide +kernel) rfl, zG_t 536 (by decide +kernel) rfl⟩
theorem zw_L_94 : zcS RL 94 yL_value := ⟨zG_t 549 (by decide +kernel) rfl, zG_t 550 (by decide +kernel) rfl⟩
theorem zw_L_97 : zcS RL 97 yL_playable := ⟨zG_t 557 (by decide +kernel) rfl, zG_t 558 (by decide +kernel) rfl⟩
theorem zw_L_120 : zcS RL 120 yL_cell := ⟨zG_t 232 (by decide +kernel) rfl, zG_t 233 (by decide +kernel) rfl⟩
theorem zw_L_124 : zcS RL 124 yL_act := ⟨zG_t 235 (by decide +kernel) rfl, zG_t 236 (by decide +kernel) rfl⟩
theorem zw_L_128 : zcS RL 128 yL_areScoresSo := ⟨zG_t 587 (by decide +kernel) rfl, zG_t 588 (by decide +kernel) rfl⟩
theorem zw_L_132 : zcS RL 132 yL_areAlike := ⟨zG_t 538 (by decide +kernel) rfl, zG_t 539 (by decide +kernel) rfl⟩
theorem zw_L_136 : zcS RL 136 yL_areCardsSo := ⟨zG_t 579 (by decide +kernel) rfl, zG_t 580 (by decide +kernel) rfl⟩
theorem zw_L_140 : zcS RL 140 yL_isGameSo := ⟨zG_t 584 (by decide +kernel) rfl, zG_t 585 (by decide +kernel) rfl⟩
def zf_L_low (p0 : Int32) (p1 : Int32) : Int32 := (p0 &&& 2147483647) - (p0 &&& 2147483647) / p1 * p1
abbrev zR_L_low : Room := { frames := 0, cells := 0, slots := 0, locals := 0 }
set_option maxHeartbeats 4000000 in
set_option maxRecDepth 100000 in
theorem zc_L_low {l : Launch} {D : va_G} {C : ClassId × ClassId} {p0 : Int32} {p1 : Int32} (h0 : ¬ p1 = 0) : zk_Mp l yL_low cL_low 2 (some .int) zR_L_low [.int (p0), .int (p1)] [] D C (vp_Si (fun r => r = zf_L_low p0 p1)) := by
  refine zk_mp (by decide) (Nat.le_of_ble_eq_true rfl) ?_
  intro p e s m below meth c X Y
  generalize hv : zf_L_low p0 p1 = V
  unfold zf_L_low at hv
  show zJ _ _ _ _ _ _ _ _ _ _ _ _ _ _ _ _ _ 0 [(0, .int (p0)), (1, .int (p1))] []
  refine zj_iload_n 1 X 0 dL_low_0 rfl rfl ?_
  refine zj_ldc 3 X (v := 2147483647) (zG_t 241 (by decide +kernel) rfl) dL_low_1 rfl ?_
  refine zj_iand 4 X dL_low_3 rfl ?_
  refine zj_iload_n 5 X 1 dL_low_4 rfl rfl ?_
  refine zj_irem 6 X dL_low_5 h0 rfl ?_
  exact ze_i X Y hv dL_low_6
def zl_L_many_lp (p0 : Int64) : Nat → Nat → Int32 → Int32
  | 0, i, x2 => x2
  | k + 1, i, x2 => zl_L_many_lp p0 k (i + 1) (x2 + (((p0 >>> ((nI i).toInt64 &&& 63)) &&& 1).toInt32))
def zf_L_many (p0 : Int64) : Int32 := zl_L_many_lp p0 32 0 0
abbrev zR_L_many : Room := { frames := 0, cells := 0, slots := 0, locals := 0 }
set_option maxHeartbeats 4000000 in
set_option maxRecDepth 100000 in
theorem zc_L_many {l : Launch} {D : va_G} {C : ClassId × ClassId} {p0 : Int64} : zk_Mp l yL_many cL_many 4 (some .int) zR_L_many [.long (p0)] [] D C (vp_Si (fun r => r = zf_L_many p0)) := by
  refine zk_mp (by decide) (Nat.le_of_ble_eq_true rfl) ?_
  intro p e s m below meth c X Y
  generalize hv : zf_L_many p0 = V
  unfold zf_L_many at hv
  show zJ _ _ _ _ _ _ _ _ _ _ _ _ _ _ _ _ _ 0 [(0, .long (p0))] []
  refine zj_iconst 1 X (v := 0) dL_many_0 (by decide) rfl ?_
  refine zj_istore_n 2 X (lv1 := [(0, .long (p0)), (2, .int (0))]) [1, 0] dL_many_1 (by decide) rfl rfl ?_
  refine zj_iconst 3 X (v := 0) dL_many_2 (by decide) rfl ?_
  refine zj_istore_n 4 X (lv1 := [(0, .long (p0)), (2, .int (0)), (3, .int (0))]) [1, 2, 0] dL_many_3 (by decide) rfl rfl ?_
  have L1 : ∀ (k i : Nat) (x2 : Int32), i + k = 32 → zl_L_many_lp p0 k i x2 = V → zJ p l e zR_L_many s m ([.long (p0)] : List Value).toArray below meth c 0 0 (MQ below (vp_Si (fun r => r = V)) ([.long (p0)] : List Value).toArray s 0 0 (fun _ => False)) D (zk_K0 s) 4 [] 4 [(0, .long (p0)), (2, .int (x2)), (3, .int (nI i))] [] := by
    intro k
    induction k with
    | zero =>
      intro i x2 h1 hv
      rw [zl_L_many_lp] at hv
      refine zj_iload_n 5 X 2 dL_many_4 rfl rfl ?_
      refine zj_bipush 7 X (v := 32) dL_many_5 (by decide) rfl ?_
      refine zj_icmp_ge 10 25 X dL_many_7 (by decide) rfl (fun _ => ?_) (fun c2 => absurd (zge0 (N := 32) (by rfl) (by omega)) c2)
      refine zj_iload_n 26 X 1 dL_many_25 rfl rfl ?_
      exact ze_i X Y hv dL_many_26
    | succ k ih =>
      intro i x2 h1 hv
      rw [zl_L_many_lp] at hv
      refine zj_iload_n 5 X 2 dL_many_4 rfl rfl ?_
      refine zj_bipush 7 X (v := 32) dL_many_5 (by decide) rfl ?_
      refine zj_icmp_ge 10 25 X dL_many_7 (by decide) rfl (fun c3 => absurd c3 (zge (N := 32) (by rfl) (by omega) (by decide))) (fun _ => ?_)
      refine zj_iload_n 11 X 1 dL_many_10 rfl rfl ?_
      refine zj_lload_n 12 X 0 dL_many_11 rfl rfl ?_
      refine zj_iload_n 13 X 2 dL_many_12 rfl rfl ?_
      refine zj_lshr 14 X dL_many_13 rfl rfl ?_
      refine zj_lconst 15 X (v := 1) dL_many_14 (by decide) rfl ?_
      refine zj_land 16 X dL_many_15 rfl ?_
      refine zj_l2i 17 X dL_many_16 rfl rfl ?_
      refine zj_iadd 18 X dL_many_17 rfl ?_
      refine zj_istore_n 19 X (lv1 := [(0, .long (p0)), (2, .int (x2 + (((p0 >>> ((nI i).toInt64 &&& 63)) &&& 1).toInt32))), (3, .int (nI i))]) [1, 0, 2] dL_many_18 (by decide) rfl rfl ?_
      refine zj_iinc 22 X (v := nI (i + 1)) (lv1 := [(0, .long (p0)), (2, .int (x2 + (((p0 >>> ((nI i).toInt64 &&& 63)) &&& 1).toInt32))), (3, .int (nI (i + 1)))]) 2 [1, 2, 0] dL_many_19 rfl (zinc _) (by decide) rfl rfl ?_
      refine zj_goto 4 X dL_many_22 (by decide) ?_
      exact ih (i + 1) (x2 + (((p0 >>> ((nI i).toInt64 &&& 63)) &&& 1).toInt32)) (by omega)  hv
  exact L1 32 0 0 (by decide)  hv
abbrev zR_L_value : Room := { frames := 7, cells := 1, slots := 6, locals := 110 }
set_option maxHeartbeats 40000000 in
set_option maxRecDepth 100000 in
theorem zc_L_value {l : Launch} {D : va_G} {C : ClassId × ClassId} {a : Nat → Nat} {u : zU} (h : zU1 u) (hfl : l.stackTraces = false) : zk_L l (.codeWith yL_value cL_value 2 (some .int) [(0, 4, 5, 45)]) yL_value zR_L_value 1 6 [.ref (a 0)] (zS C a u) D C (zQi D (zS C a u) 1 (-99999)) := by
  refine zk_lw (by decide) (Nat.le_of_ble_eq_true rfl) ?_
  intro p e s m below meth c A X Y htab hD hA
  have FA : zFr D A (zS C a u) (zS C a u) := zFr_N hD
  show zJ _ _ _ _ _ _ _ _ _ _ _ _ _ _ _ _ _ 0 [(0, .ref (a 0))] []
  refine zj_aload_n 1 X 0 dL_value_0 rfl rfl ?_
  refine zc_ix 1 6 1 2 (zr_Vx (As := []) (rest := []) X (zc_X4_value (l := l) (D := D) (C := C) (a := a) (u := u) (hfl := hfl)) zw_L_47 zn_X4_value (zcR_of rfl) zO_S0 FA.1 hA rfl (Nat.le_of_ble_eq_true rfl) dL_value_1) (zq_value h) (by decide) FA hA rfl rfl rfl ?_
  have X := zXg (g' := 1) X
  refine zJ_catch (name := "java/lang/IllegalStateException") X [] ⟨0, 4, 5, 45⟩ [] (htab.trans rfl) (fun z hz => by cases hz) (by decide) (by decide) (zG_t 247 (by decide +kernel) rfl) (by decide +kernel) (fun q => ?_)
  show zJ _ _ _ _ _ _ _ _ _ _ _ _ _ _ _ _ _ 5 _ _
  refine zj_astore_n 6 X (lv1 := [(0, .ref (a 0)), (1, .ref (q))]) [1, 0] dL_value_5 (by decide) rfl rfl ?_
  refine zj_ldc 8 X (v := (-99999)) (zG_t 505 (by decide +kernel) rfl) dL_value_6 rfl ?_
  exact ze_gi (by decide) (by decide) (by decide) X Y rfl dL_value_8
abbrev zR_L_playable : Room := { frames := 7, cells := 1, slots := 6, locals := 110 }
set_option maxHeartbeats 40000000 in
set_option maxRecDepth 100000 in
theorem zc_L_playable {l : Launch} {D : va_G} {C : ClassId × ClassId} {a : Nat → Nat} {u : zU} (h : zU1 u) (hfl : l.stackTraces = false) : zk_L l (.codeWith yL_playable cL_playable 2 (some .long) [(0, 4, 5, 45)]) yL_playable zR_L_playable 1 6 [.ref (a 0)] (zS C a u) D C (zQl D (zS C a u) 1 (-99999)) := by
  refine zk_lw (by decide) (Nat.le_of_ble_eq_true rfl) ?_
  intro p e s m below meth c A X Y htab hD hA
  have FA : zFr D A (zS C a u) (zS C a u) := zFr_N hD
  show zJ _ _ _ _ _ _ _ _ _ _ _ _ _ _ _ _ _ 0 [(0, .ref (a 0))] []
  refine zj_aload_n 1 X 0 dL_playable_0 rfl rfl ?_
  refine zc_lx 1 6 1 2 (zr_Vx (As := []) (rest := []) X (zc_X4_playable (l := l) (D := D) (C := C) (a := a) (u := u) (hfl := hfl)) zw_L_50 zn_X4_playable (zcR_of rfl) zO_S0 FA.1 hA rfl (Nat.le_of_ble_eq_true rfl) dL_playable_1) (zq_playable h) (by decide) FA hA rfl rfl rfl ?_
  have X := zXg (g' := 1) X
  refine zJ_catch (name := "java/lang/IllegalStateException") X [] ⟨0, 4, 5, 45⟩ [] (htab.trans rfl) (fun z hz => by cases hz) (by decide) (by decide) (zG_t 247 (by decide +kernel) rfl) (by decide +kernel) (fun q => ?_)
  show zJ _ _ _ _ _ _ _ _ _ _ _ _ _ _ _ _ _ 5 _ _
  refine zj_astore_n 6 X (lv1 := [(0, .ref (a 0)), (1, .ref (q))]) [1, 0] dL_playable_5 (by decide) rfl rfl ?_
  refine zj_ldc2 9 X (v := (-99999)) (zG_t 560 (by decide +kernel) rfl) dL_playable_6 rfl ?_
  exact ze_gl (by decide) (by decide) (by decide) X Y rfl dL_playable_9
abbrev zR_L_does_4 : Room := { frames := 7, cells := 1, slots := 6, locals := 114 }
set_option maxHeartbeats 40000000 in
set_option maxRecDepth 100000 in
theorem zc_L_does_4 {l : Launch} {D : va_G} {C : ClassId × ClassId} {a : Nat → Nat} {u : zU} (h : zU1 u) (hfl : l.stackTraces = false) : zk_L l (.codeWith yL_does cL_does 5 (some .int) [(0, 100, 101, 40), (0, 100, 106, 43), (0, 100, 111, 45)]) yL_does zR_L_does_4 1 6 [.ref (a 0), .int 4, .int (-4), .int (-4)] (zS C a u) D C (zQi D (zS C a u) 1 (-99999)) := by
  refine zk_lw (by decide) (Nat.le_of_ble_eq_true rfl) ?_
  intro p e s m below meth c A X Y htab hD hA
  have FA : zFr D A (zS C a u) (zS C a u) := zFr_N hD
  show zJ _ _ _ _ _ _ _ _ _ _ _ _ _ _ _ _ _ 0 [(0, .ref (a 0)), (1, .int 4), (2, .int (-4)), (3, .int (-4))] []
  refine zj_iload_n 1 X 1 dL_does_0 rfl rfl ?_
  refine zj_if_ne 4 12 X dL_does_1 (by decide) rfl (fun _ => ?_) (fun h9 => absurd h9 (by decide))
  refine zj_iload_n 13 X 1 dL_does_12 rfl rfl ?_
  refine zj_iconst 14 X (v := 1) dL_does_13 (by decide) rfl ?_
  refine zj_icmp_ne 17 25 X dL_does_14 (by decide) rfl (fun _ => ?_) (fun h9 => absurd h9 (by decide))
  refine zj_iload_n 26 X 1 dL_does_25 rfl rfl ?_
  refine zj_iconst 27 X (v := 2) dL_does_26 (by decide) rfl ?_
  refine zj_icmp_ne 30 37 X dL_does_27 (by decide) rfl (fun _ => ?_) (fun h9 => absurd h9 (by decide))
  refine zj_iload_n 38 X 1 dL_does_37 rfl rfl ?_
  refine zj_iconst 39 X (v := 3) dL_does_38 (by decide) rfl ?_
  refine zj_icmp_ne 42 49 X dL_does_39 (by decide) rfl (fun _ => ?_) (fun h9 => absurd h9 (by decide))
  refine zj_iload_n 50 X 1 dL_does_49 rfl rfl ?_
  refine zj_iconst 51 X (v := 4) dL_does_50 (by decide) rfl ?_
  refine zj_icmp_ne 54 63 X dL_does_51 (by decide) rfl (fun h9 => absurd h9 (by decide)) (fun _ => ?_)
  refine zj_aload_n 55 X 0 dL_does_54 rfl rfl ?_
  refine zj_iload_n 56 X 2 dL_does_55 rfl rfl ?_
  refine zj_iload_n 57 X 3 dL_does_56 rfl rfl ?_
  refine zc_ix 1 6 1 3 (zr_Vx (As := [.int (-4), .int (-4)]) (rest := []) X (zc_X4_putAway (l := l) (D := D) (C := C) (a := a) (u := u) (p0 := (-4)) (p1 := (-4)) (hfl := hfl)) zw_L_24 zn_X4_putAway (zcR_of rfl) zO_S0 FA.1 hA rfl (Nat.le_of_ble_eq_true rfl) dL_does_57) (zq_putAway u) (by decide) FA hA rfl rfl rfl ?_
  have X := zXg (g' := 1) X
  refine zJ_catch (name := "java/lang/IndexOutOfBoundsException") X [] ⟨0, 100, 101, 40⟩ [⟨0, 100, 106, 43⟩, ⟨0, 100, 111, 45⟩] (htab.trans rfl) (fun z hz => by cases hz) (by decide) (by decide) (zG_t 245 (by decide +kernel) rfl) (by decide +kernel) (fun q => ?_)
  show zJ _ _ _ _ _ _ _ _ _ _ _ _ _ _ _ _ _ 101 _ _
  refine zj_astore 103 X (lv1 := [(0, .ref (a 0)), (1, .int 4), (2, .int (-4)), (3, .int (-4)), (4, .ref (q))]) [1, 2, 3, 4, 0] dL_does_101 (by decide) rfl rfl ?_
  refine zj_ldc 105 X (v := (-99999)) (zG_t 505 (by decide +kernel) rfl) dL_does_103 rfl ?_
  exact ze_gi (by decide) (by decide) (by decide) X Y rfl dL_does_105
abbrev zR_L_does_5 : Room := { frames := 7, cells := 1, slots := 6, locals := 113 }
set_option maxHeartbeats 40000000 in
set_option maxRecDepth 100000 in
theorem zc_L_does_5 {l : Launch} {D : va_G} {C : ClassId × ClassId} {a : Nat → Nat} {u : zU} (h : zU1 u) (hfl : l.stackTraces = false) : zk_L l (.codeWith yL_does cL_does 5 (some .int) [(0, 100, 101, 40), (0, 100, 106, 43), (0, 100, 111, 45)]) yL_does zR_L_does_5 1 6 [.ref (a 0), .int 5, .int 19, .int (-3)] (zS C a u) D C (zQi D (zS C a u) 1 (-99999)) := by
  refine zk_lw (by decide) (Nat.le_of_ble_eq_true rfl) ?_
  intro p e s m below meth c A X Y htab hD hA
  have FA : zFr D A (zS C a u) (zS C a u) := zFr_N hD
  show zJ _ _ _ _ _ _ _ _ _ _ _ _ _ _ _ _ _ 0 [(0, .ref (a 0)), (1, .int 5), (2, .int 19), (3, .int (-3))] []
  refine zj_iload_n 1 X 1 dL_does_0 rfl rfl ?_
  refine zj_if_ne 4 12 X dL_does_1 (by decide) rfl (fun _ => ?_) (fun h9 => absurd h9 (by decide))
  refine zj_iload_n 13 X 1 dL_does_12 rfl rfl ?_
  refine zj_iconst 14 X (v := 1) dL_does_13 (by decide) rfl ?_
  refine zj_icmp_ne 17 25 X dL_does_14 (by decide) rfl (fun _ => ?_) (fun h9 => absurd h9 (by decide))
  refine zj_iload_n 26 X 1 dL_does_25 rfl rfl ?_
  refine zj_iconst 27 X (v := 2) dL_does_26 (by decide) rfl ?_
  refine zj_icmp_ne 30 37 X dL_does_27 (by decide) rfl (fun _ => ?_) (fun h9 => absurd h9 (by decide))
  refine zj_iload_n 38 X 1 dL_does_37 rfl rfl ?_
  refine zj_iconst 39 X (v := 3) dL_does_38 (by decide) rfl ?_
  refine zj_icmp_ne 42 49 X dL_does_39 (by decide) rfl (fun _ => ?_) (fun h9 => absurd h9 (by decide))
  refine zj_iload_n 50 X 1 dL_does_49 rfl rfl ?_
  refine zj_iconst 51 X (v := 4) dL_does_50 (by decide) rfl ?_
  refine zj_icmp_ne 54 63 X dL_does_51 (by decide) rfl (fun _ => ?_) (fun h9 => absurd h9 (by decide))
  refine zj_iload_n 64 X 1 dL_does_63 rfl rfl ?_
  refine zj_iconst 65 X (v := 5) dL_does_64 (by decide) rfl ?_
  refine zj_icmp_ne 68 77 X dL_does_65 (by decide) rfl (fun h9 => absurd h9 (by decide)) (fun _ => ?_)
  refine zj_aload_n 69 X 0 dL_does_68 rfl rfl ?_
  refine zj_iload_n 70 X 2 dL_does_69 rfl rfl ?_
  refine zj_iload_n 71 X 3 dL_does_70 rfl rfl ?_
  refine zc_ix 1 6 1 1 (zr_Vx (As := [.int 19, .int (-3)]) (rest := []) X (zc_X4_announce (l := l) (D := D) (C := C) (a := a) (u := u) (p0 := 19) (p1 := (-3)) (hfl := hfl)) zw_L_28 zn_X4_announce (zcR_of rfl) zO_S0 FA.1 hA rfl (Nat.le_of_ble_eq_true rfl) dL_does_71) (zq_announce u) (by decide) FA hA rfl rfl rfl ?_
  have X := zXg (g' := 1) X
  refine zJ_catch (name := "java/lang/IllegalArgumentException") X [⟨0, 100, 101, 40⟩] ⟨0, 100, 106, 43⟩ [⟨0, 100, 111, 45⟩] (htab.trans rfl) (List.forall_mem_cons.mpr ⟨Or.inr ⟨by decide, "java/lang/IndexOutOfBoundsException", zG_t 245 (by decide +kernel) rfl, by decide +kernel⟩, fun z hz => by cases hz⟩) (by decide) (by decide) (zG_t 246 (by decide +kernel) rfl) (by decide +kernel) (fun q => ?_)
  show zJ _ _ _ _ _ _ _ _ _ _ _ _ _ _ _ _ _ 106 _ _
  refine zj_astore 108 X (lv1 := [(0, .ref (a 0)), (1, .int 5), (2, .int 19), (3, .int (-3)), (4, .ref (q))]) [1, 2, 3, 4, 0] dL_does_106 (by decide) rfl rfl ?_
  refine zj_ldc 110 X (v := (-99999)) (zG_t 505 (by decide +kernel) rfl) dL_does_108 rfl ?_
  exact ze_gi (by decide) (by decide) (by decide) X Y rfl dL_does_110
abbrev zR_L_does_6 : Room := { frames := 7, cells := 1, slots := 6, locals := 153 }
set_option maxHeartbeats 40000000 in
set_option maxRecDepth 100000 in
theorem zc_L_does_6 {l : Launch} {D : va_G} {C : ClassId × ClassId} {a : Nat → Nat} {u : zU} (h : zU1 u) (hfl : l.stackTraces = false) : zk_L l (.codeWith yL_does cL_does 5 (some .int) [(0, 100, 101, 40), (0, 100, 106, 43), (0, 100, 111, 45)]) yL_does zR_L_does_6 1 6 [.ref (a 0), .int 6, .int 2, .int (-1)] (zS C a u) D C (zQi D (zS C a u) 1 (-99999)) := by
  refine zk_lw (by decide) (Nat.le_of_ble_eq_true rfl) ?_
  intro p e s m below meth c A X Y htab hD hA
  have FA : zFr D A (zS C a u) (zS C a u) := zFr_N hD
  show zJ _ _ _ _ _ _ _ _ _ _ _ _ _ _ _ _ _ 0 [(0, .ref (a 0)), (1, .int 6), (2, .int 2), (3, .int (-1))] []
  refine zj_iload_n 1 X 1 dL_does_0 rfl rfl ?_
  refine zj_if_ne 4 12 X dL_does_1 (by decide) rfl (fun _ => ?_) (fun h9 => absurd h9 (by decide))
  refine zj_iload_n 13 X 1 dL_does_12 rfl rfl ?_
  refine zj_iconst 14 X (v := 1) dL_does_13 (by decide) rfl ?_
  refine zj_icmp_ne 17 25 X dL_does_14 (by decide) rfl (fun _ => ?_) (fun h9 => absurd h9 (by decide))
  refine zj_iload_n 26 X 1 dL_does_25 rfl rfl ?_
  refine zj_iconst 27 X (v := 2) dL_does_26 (by decide) rfl ?_
  refine zj_icmp_ne 30 37 X dL_does_27 (by decide) rfl (fun _ => ?_) (fun h9 => absurd h9 (by decide))
  refine zj_iload_n 38 X 1 dL_does_37 rfl rfl ?_
  refine zj_iconst 39 X (v := 3) dL_does_38 (by decide) rfl ?_
  refine zj_icmp_ne 42 49 X dL_does_39 (by decide) rfl (fun _ => ?_) (fun h9 => absurd h9 (by decide))
  refine zj_iload_n 50 X 1 dL_does_49 rfl rfl ?_
  refine zj_iconst 51 X (v := 4) dL_does_50 (by decide) rfl ?_
  refine zj_icmp_ne 54 63 X dL_does_51 (by decide) rfl (fun _ => ?_) (fun h9 => absurd h9 (by decide))
  refine zj_iload_n 64 X 1 dL_does_63 rfl rfl ?_
  refine zj_iconst 65 X (v := 5) dL_does_64 (by decide) rfl ?_
  refine zj_icmp_ne 68 77 X dL_does_65 (by decide) rfl (fun _ => ?_) (fun h9 => absurd h9 (by decide))
  refine zj_iload_n 78 X 1 dL_does_77 rfl rfl ?_
  refine zj_bipush 80 X (v := 6) dL_does_78 (by decide) rfl ?_
  refine zj_icmp_ne 83 91 X dL_does_80 (by decide) rfl (fun h9 => absurd h9 (by decide)) (fun _ => ?_)
  refine zj_aload_n 84 X 0 dL_does_83 rfl rfl ?_
  refine zj_iload_n 85 X 2 dL_does_84 rfl rfl ?_
  refine zc_ix 1 6 1 2 (zr_Vx (As := [.int 2]) (rest := []) X (zc_X4_play (l := l) (D := D) (C := C) (a := a) (u := u) (p0 := 2) (hfl := hfl)) zw_L_31 zn_X4_play (zcR_of rfl) zO_S0 FA.1 hA rfl (Nat.le_of_ble_eq_true rfl) dL_does_85) (zq_play h) (by decide) FA hA rfl rfl rfl ?_
  have X := zXg (g' := 1) X
  refine zJ_catch (name := "java/lang/IllegalStateException") X [⟨0, 100, 101, 40⟩, ⟨0, 100, 106, 43⟩] ⟨0, 100, 111, 45⟩ [] (htab.trans rfl) (List.forall_mem_cons.mpr ⟨Or.inr ⟨by decide, "java/lang/IndexOutOfBoundsException", zG_t 245 (by decide +kernel) rfl, by decide +kernel⟩, List.forall_mem_cons.mpr ⟨Or.inr ⟨by decide, "java/lang/IllegalArgumentException", zG_t 246 (by decide +kernel) rfl, by decide +kernel⟩, fun z hz => by cases hz⟩⟩) (by decide) (by decide) (zG_t 247 (by decide +kernel) rfl) (by decide +kernel) (fun q => ?_)
  show zJ _ _ _ _ _ _ _ _ _ _ _ _ _ _ _ _ _ 111 _ _
  refine zj_astore 113 X (lv1 := [(0, .ref (a 0)), (1, .int 6), (2, .int 2), (3, .int (-1)), (4, .ref (q))]) [1, 2, 3, 4, 0] dL_does_111 (by decide) rfl rfl ?_
  refine zj_ldc 115 X (v := (-99999)) (zG_t 505 (by decide +kernel) rfl) dL_does_113 rfl ?_
  exact ze_gi (by decide) (by decide) (by decide) X Y rfl dL_does_115
abbrev zR_L_act_3 : Room := { frames := 8, cells := 1, slots := 6, locals := 177 }
set_option maxHeartbeats 40000000 in
set_option maxRecDepth 100000 in
theorem zc_L_act_3 {l : Launch} {D : va_G} {C : ClassId × ClassId} {a : Nat → Nat} {u : zU} (h : zU1 u) (hfl : l.stackTraces = false) : zk_L l (.code yL_act cL_act 6 (some .int)) yL_act zR_L_act_3 1 6 [.ref (a 0), .int 3] (zS C a u) D C (zQi D (zS C a u) 1 (-99999)) := by
  refine zk_l (by decide) (Nat.le_of_ble_eq_true rfl) ?_
  intro p e s m below meth c A X Y hD hA
  have FA : zFr D A (zS C a u) (zS C a u) := zFr_N hD
  show zJ _ _ _ _ _ _ _ _ _ _ _ _ _ _ _ _ _ 0 [(0, .ref (a 0)), (1, .int 3)] []
  refine zj_iload_n 1 X 1 dL_act_0 rfl rfl ?_
  refine zj_bipush 3 X (v := 24) dL_act_1 (by decide) rfl ?_
  refine zj_ishr 4 X dL_act_3 rfl ?_
  refine zj_ti 0 (by decide +kernel) ?_
  refine zj_bipush 6 X (v := 8) dL_act_4 (by decide) rfl ?_
  refine zc_iv 9 0 (zr_S (As := [.int 0, .int 8]) (rest := []) X (zc_L_low (l := l) (D := D) (C := C) (p0 := 0) (p1 := 8) (h0 := by decide)) zw_L_55 zn_L_low (zcR_of rfl) zs0 rfl (Nat.le_of_ble_eq_true rfl) dL_act_6) (by decide +kernel) rfl ?_
  refine zj_if_ne 12 16 X dL_act_9 (by decide) rfl (fun h9 => absurd h9 (by decide)) (fun _ => ?_)
  refine zj_iconst 13 X (v := 1) dL_act_12 (by decide) rfl ?_
  refine zj_goto 17 X dL_act_13 (by decide) ?_
  refine zj_istore_n 18 X (lv1 := [(0, .ref (a 0)), (1, .int 3), (2, .int 1)]) [1, 2, 0] dL_act_17 (by decide) rfl rfl ?_
  refine zj_aload_n 19 X 0 dL_act_18 rfl rfl ?_
  refine zc_iv 22 0 (zr_V (As := []) (rest := []) (wsub := zS C a u) X (zc_X4_phase (l := l) (D := D) (C := C) (a := a) (u := u)) zw_L_60 zn_X4_phase (zcR_of rfl) zO_S0 zsI rfl (Nat.le_of_ble_eq_true rfl) dL_act_19) (zq_phase h) rfl ?_
  refine zj_istore_n 23 X (lv1 := [(0, .ref (a 0)), (1, .int 3), (2, .int 1), (3, .int 0)]) [1, 2, 3, 0] dL_act_22 (by decide) rfl rfl ?_
  refine zj_iload_n 24 X 2 dL_act_23 rfl rfl ?_
  refine zj_if_eq 27 61 X dL_act_24 (by decide) rfl (fun h9 => absurd h9 (by decide)) (fun _ => ?_)
  refine zj_aload_n 28 X 0 dL_act_27 rfl rfl ?_
  refine zj_iconst 29 X (v := 1) dL_act_28 (by decide) rfl ?_
  refine zj_iload_n 30 X 1 dL_act_29 rfl rfl ?_
  refine zj_bipush 32 X (v := 7) dL_act_30 (by decide) rfl ?_
  refine zc_iv 35 3 (zr_S (As := [.int 3, .int 7]) (rest := [.int 1, .ref (a 0)]) X (zc_L_low (l := l) (D := D) (C := C) (p0 := 3) (p1 := 7) (h0 := by decide)) zw_L_55 zn_L_low (zcR_of rfl) zs0 rfl (Nat.le_of_ble_eq_true rfl) dL_act_32) (by decide +kernel) rfl ?_
  refine zj_iadd 36 X dL_act_35 rfl ?_
  refine zj_ti 4 (by decide +kernel) ?_
  refine zj_iload_n 37 X 1 dL_act_36 rfl rfl ?_
  refine zj_iconst 38 X (v := 4) dL_act_37 (by decide) rfl ?_
  refine zj_ishr 39 X dL_act_38 rfl ?_
  refine zj_ti 0 (by decide +kernel) ?_
  refine zj_bipush 41 X (v := 40) dL_act_39 (by decide) rfl ?_
  refine zc_iv 44 0 (zr_S (As := [.int 0, .int 40]) (rest := [.int 4, .ref (a 0)]) X (zc_L_low (l := l) (D := D) (C := C) (p0 := 0) (p1 := 40) (h0 := by decide)) zw_L_55 zn_L_low (zcR_of rfl) zs0 rfl (Nat.le_of_ble_eq_true rfl) dL_act_41) (by decide +kernel) rfl ?_
  refine zj_iconst 45 X (v := 4) dL_act_44 (by decide) rfl ?_
  refine zj_isub 46 X dL_act_45 rfl ?_
  refine zj_ti (-4) (by decide +kernel) ?_
  refine zj_iload_n 47 X 1 dL_act_46 rfl rfl ?_
  refine zj_bipush 49 X (v := 9) dL_act_47 (by decide) rfl ?_
  refine zj_ishr 50 X dL_act_49 rfl ?_
  refine zj_ti 0 (by decide +kernel) ?_
  refine zj_bipush 52 X (v := 40) dL_act_50 (by decide) rfl ?_
  refine zc_iv 55 0 (zr_S (As := [.int 0, .int 40]) (rest := [.int (-4), .int 4, .ref (a 0)]) X (zc_L_low (l := l) (D := D) (C := C) (p0 := 0) (p1 := 40) (h0 := by decide)) zw_L_55 zn_L_low (zcR_of rfl) zs0 rfl (Nat.le_of_ble_eq_true rfl) dL_act_52) (by decide +kernel) rfl ?_
  refine zj_iconst 56 X (v := 4) dL_act_55 (by decide) rfl ?_
  refine zj_isub 57 X dL_act_56 rfl ?_
  refine zj_ti (-4) (by decide +kernel) ?_
  refine zc_gi 60 1 6 1 (zr_Lw (n := 4) (As := [.ref (a 0), .int 4, .int (-4), .int (-4)]) (rest := []) X (zc_L_does_4 (l := l) (D := D) (C := C) (a := a) (u := u) h hfl) (zG_t 242 (by decide +kernel) rfl) (zG_t 243 (by decide +kernel) rfl) (zG_t 0 (by decide +kernel) rfl) (zG_t 244 (by decide +kernel) rfl) ⟨by decide +kernel, by decide +kernel, by decide +kernel⟩ (zcR_of rfl) FA.1 hA rfl (Nat.le_of_ble_eq_true rfl) dL_act_57) FA hA rfl rfl rfl rfl ?_
  have X := zXg (g' := 1) X
  exact ze_gi (by decide) (by decide) (by decide) X Y rfl dL_act_60
abbrev zR_L_act_1012 : Room := { frames := 8, cells := 1, slots := 6, locals := 177 }
set_option maxHeartbeats 40000000 in
set_option maxRecDepth 100000 in
theorem zc_L_act_1012 {l : Launch} {D : va_G} {C : ClassId × ClassId} {a : Nat → Nat} {u : zU} (h : zU1 u) (hfl : l.stackTraces = false) : zk_L l (.code yL_act cL_act 6 (some .int)) yL_act zR_L_act_1012 1 6 [.ref (a 0), .int 1012] (zS C a u) D C (zQi D (zS C a u) 1 (-99999)) := by
  refine zk_l (by decide) (Nat.le_of_ble_eq_true rfl) ?_
  intro p e s m below meth c A X Y hD hA
  have FA : zFr D A (zS C a u) (zS C a u) := zFr_N hD
  show zJ _ _ _ _ _ _ _ _ _ _ _ _ _ _ _ _ _ 0 [(0, .ref (a 0)), (1, .int 1012)] []
  refine zj_iload_n 1 X 1 dL_act_0 rfl rfl ?_
  refine zj_bipush 3 X (v := 24) dL_act_1 (by decide) rfl ?_
  refine zj_ishr 4 X dL_act_3 rfl ?_
  refine zj_ti 0 (by decide +kernel) ?_
  refine zj_bipush 6 X (v := 8) dL_act_4 (by decide) rfl ?_
  refine zc_iv 9 0 (zr_S (As := [.int 0, .int 8]) (rest := []) X (zc_L_low (l := l) (D := D) (C := C) (p0 := 0) (p1 := 8) (h0 := by decide)) zw_L_55 zn_L_low (zcR_of rfl) zs0 rfl (Nat.le_of_ble_eq_true rfl) dL_act_6) (by decide +kernel) rfl ?_
  refine zj_if_ne 12 16 X dL_act_9 (by decide) rfl (fun h9 => absurd h9 (by decide)) (fun _ => ?_)
  refine zj_iconst 13 X (v := 1) dL_act_12 (by decide) rfl ?_
  refine zj_goto 17 X dL_act_13 (by decide) ?_
  refine zj_istore_n 18 X (lv1 := [(0, .ref (a 0)), (1, .int 1012), (2, .int 1)]) [1, 2, 0] dL_act_17 (by decide) rfl rfl ?_
  refine zj_aload_n 19 X 0 dL_act_18 rfl rfl ?_
  refine zc_iv 22 0 (zr_V (As := []) (rest := []) (wsub := zS C a u) X (zc_X4_phase (l := l) (D := D) (C := C) (a := a) (u := u)) zw_L_60 zn_X4_phase (zcR_of rfl) zO_S0 zsI rfl (Nat.le_of_ble_eq_true rfl) dL_act_19) (zq_phase h) rfl ?_
  refine zj_istore_n 23 X (lv1 := [(0, .ref (a 0)), (1, .int 1012), (2, .int 1), (3, .int 0)]) [1, 2, 3, 0] dL_act_22 (by decide) rfl rfl ?_
  refine zj_iload_n 24 X 2 dL_act_23 rfl rfl ?_
  refine zj_if_eq 27 61 X dL_act_24 (by decide) rfl (fun h9 => absurd h9 (by decide)) (fun _ => ?_)
  refine zj_aload_n 28 X 0 dL_act_27 rfl rfl ?_
  refine zj_iconst 29 X (v := 1) dL_act_28 (by decide) rfl ?_
  refine zj_iload_n 30 X 1 dL_act_29 rfl rfl ?_
  refine zj_bipush 32 X (v := 7) dL_act_30 (by decide) rfl ?_
  refine zc_iv 35 4 (zr_S (As := [.int 1012, .int 7]) (rest := [.int 1, .ref (a 0)]) X (zc_L_low (l := l) (D := D) (C := C) (p0 := 1012) (p1 := 7) (h0 := by decide)) zw_L_55 zn_L_low (zcR_of rfl) zs0 rfl (Nat.le_of_ble_eq_true rfl) dL_act_32) (by decide +kernel) rfl ?_
  refine zj_iadd 36 X dL_act_35 rfl ?_
  refine zj_ti 5 (by decide +kernel) ?_
  refine zj_iload_n 37 X 1 dL_act_36 rfl rfl ?_
  refine zj_iconst 38 X (v := 4) dL_act_37 (by decide) rfl ?_
  refine zj_ishr 39 X dL_act_38 rfl ?_
  refine zj_ti 63 (by decide +kernel) ?_
  refine zj_bipush 41 X (v := 40) dL_act_39 (by decide) rfl ?_
  refine zc_iv 44 23 (zr_S (As := [.int 63, .int 40]) (rest := [.int 5, .ref (a 0)]) X (zc_L_low (l := l) (D := D) (C := C) (p0 := 63) (p1 := 40) (h0 := by decide)) zw_L_55 zn_L_low (zcR_of rfl) zs0 rfl (Nat.le_of_ble_eq_true rfl) dL_act_41) (by decide +kernel) rfl ?_
  refine zj_iconst 45 X (v := 4) dL_act_44 (by decide) rfl ?_
  refine zj_isub 46 X dL_act_45 rfl ?_
  refine zj_ti 19 (by decide +kernel) ?_
  refine zj_iload_n 47 X 1 dL_act_46 rfl rfl ?_
  refine zj_bipush 49 X (v := 9) dL_act_47 (by decide) rfl ?_
  refine zj_ishr 50 X dL_act_49 rfl ?_
  refine zj_ti 1 (by decide +kernel) ?_
  refine zj_bipush 52 X (v := 40) dL_act_50 (by decide) rfl ?_
  refine zc_iv 55 1 (zr_S (As := [.int 1, .int 40]) (rest := [.int 19, .int 5, .ref (a 0)]) X (zc_L_low (l := l) (D := D) (C := C) (p0 := 1) (p1 := 40) (h0 := by decide)) zw_L_55 zn_L_low (zcR_of rfl) zs0 rfl (Nat.le_of_ble_eq_true rfl) dL_act_52) (by decide +kernel) rfl ?_
  refine zj_iconst 56 X (v := 4) dL_act_55 (by decide) rfl ?_
  refine zj_isub 57 X dL_act_56 rfl ?_
  refine zj_ti (-3) (by decide +kernel) ?_
  refine zc_gi 60 1 6 1 (zr_Lw (n := 4) (As := [.ref (a 0), .int 5, .int 19, .int (-3)]) (rest := []) X (zc_L_does_5 (l := l) (D := D) (C := C) (a := a) (u := u) h hfl) (zG_t 242 (by decide +kernel) rfl) (zG_t 243 (by decide +kernel) rfl) (zG_t 0 (by decide +kernel) rfl) (zG_t 244 (by decide +kernel) rfl) ⟨by decide +kernel, by decide +kernel, by decide +kernel⟩ (zcR_of rfl) FA.1 hA rfl (Nat.le_of_ble_eq_true rfl) dL_act_57) FA hA rfl rfl rfl rfl ?_
  have X := zXg (g' := 1) X
  exact ze_gi (by decide) (by decide) (by decide) X Y rfl dL_act_60
abbrev zR_L_act_2021 : Room := { frames := 8, cells := 1, slots := 6, locals := 177 }
set_option maxHeartbeats 40000000 in
set_option maxRecDepth 100000 in
theorem zc_L_act_2021 {l : Launch} {D : va_G} {C : ClassId × ClassId} {a : Nat → Nat} {u : zU} (h : zU1 u) (hfl : l.stackTraces = false) : zk_L l (.code yL_act cL_act 6 (some .int)) yL_act zR_L_act_2021 1 6 [.ref (a 0), .int 2021] (zS C a u) D C (zQi D (zS C a u) 1 (-99999)) := by
  refine zk_l (by decide) (Nat.le_of_ble_eq_true rfl) ?_
  intro p e s m below meth c A X Y hD hA
  have FA : zFr D A (zS C a u) (zS C a u) := zFr_N hD
  show zJ _ _ _ _ _ _ _ _ _ _ _ _ _ _ _ _ _ 0 [(0, .ref (a 0)), (1, .int 2021)] []
  refine zj_iload_n 1 X 1 dL_act_0 rfl rfl ?_
  refine zj_bipush 3 X (v := 24) dL_act_1 (by decide) rfl ?_
  refine zj_ishr 4 X dL_act_3 rfl ?_
  refine zj_ti 0 (by decide +kernel) ?_
  refine zj_bipush 6 X (v := 8) dL_act_4 (by decide) rfl ?_
  refine zc_iv 9 0 (zr_S (As := [.int 0, .int 8]) (rest := []) X (zc_L_low (l := l) (D := D) (C := C) (p0 := 0) (p1 := 8) (h0 := by decide)) zw_L_55 zn_L_low (zcR_of rfl) zs0 rfl (Nat.le_of_ble_eq_true rfl) dL_act_6) (by decide +kernel) rfl ?_
  refine zj_if_ne 12 16 X dL_act_9 (by decide) rfl (fun h9 => absurd h9 (by decide)) (fun _ => ?_)
  refine zj_iconst 13 X (v := 1) dL_act_12 (by decide) rfl ?_
  refine zj_goto 17 X dL_act_13 (by decide) ?_
  refine zj_istore_n 18 X (lv1 := [(0, .ref (a 0)), (1, .int 2021), (2, .int 1)]) [1, 2, 0] dL_act_17 (by decide) rfl rfl ?_
  refine zj_aload_n 19 X 0 dL_act_18 rfl rfl ?_
  refine zc_iv 22 0 (zr_V (As := []) (rest := []) (wsub := zS C a u) X (zc_X4_phase (l := l) (D := D) (C := C) (a := a) (u := u)) zw_L_60 zn_X4_phase (zcR_of rfl) zO_S0 zsI rfl (Nat.le_of_ble_eq_true rfl) dL_act_19) (zq_phase h) rfl ?_
  refine zj_istore_n 23 X (lv1 := [(0, .ref (a 0)), (1, .int 2021), (2, .int 1), (3, .int 0)]) [1, 2, 3, 0] dL_act_22 (by decide) rfl rfl ?_
  refine zj_iload_n 24 X 2 dL_act_23 rfl rfl ?_
  refine zj_if_eq 27 61 X dL_act_24 (by decide) rfl (fun h9 => absurd h9 (by decide)) (fun _ => ?_)
  refine zj_aload_n 28 X 0 dL_act_27 rfl rfl ?_
  refine zj_iconst 29 X (v := 1) dL_act_28 (by decide) rfl ?_
  refine zj_iload_n 30 X 1 dL_act_29 rfl rfl ?_
  refine zj_bipush 32 X (v := 7) dL_act_30 (by decide) rfl ?_
  refine zc_iv 35 5 (zr_S (As := [.int 2021, .int 7]) (rest := [.int 1, .ref (a 0)]) X (zc_L_low (l := l) (D := D) (C := C) (p0 := 2021) (p1 := 7) (h0 := by decide)) zw_L_55 zn_L_low (zcR_of rfl) zs0 rfl (Nat.le_of_ble_eq_true rfl) dL_act_32) (by decide +kernel) rfl ?_
  refine zj_iadd 36 X dL_act_35 rfl ?_
  refine zj_ti 6 (by decide +kernel) ?_
  refine zj_iload_n 37 X 1 dL_act_36 rfl rfl ?_
  refine zj_iconst 38 X (v := 4) dL_act_37 (by decide) rfl ?_
  refine zj_ishr 39 X dL_act_38 rfl ?_
  refine zj_ti 126 (by decide +kernel) ?_
  refine zj_bipush 41 X (v := 40) dL_act_39 (by decide) rfl ?_
  refine zc_iv 44 6 (zr_S (As := [.int 126, .int 40]) (rest := [.int 6, .ref (a 0)]) X (zc_L_low (l := l) (D := D) (C := C) (p0 := 126) (p1 := 40) (h0 := by decide)) zw_L_55 zn_L_low (zcR_of rfl) zs0 rfl (Nat.le_of_ble_eq_true rfl) dL_act_41) (by decide +kernel) rfl ?_
  refine zj_iconst 45 X (v := 4) dL_act_44 (by decide) rfl ?_
  refine zj_isub 46 X dL_act_45 rfl ?_
  refine zj_ti 2 (by decide +kernel) ?_
  refine zj_iload_n 47 X 1 dL_act_46 rfl rfl ?_
  refine zj_bipush 49 X (v := 9) dL_act_47 (by decide) rfl ?_
  refine zj_ishr 50 X dL_act_49 rfl ?_
  refine zj_ti 3 (by decide +kernel) ?_
  refine zj_bipush 52 X (v := 40) dL_act_50 (by decide) rfl ?_
  refine zc_iv 55 3 (zr_S (As := [.int 3, .int 40]) (rest := [.int 2, .int 6, .ref (a 0)]) X (zc_L_low (l := l) (D := D) (C := C) (p0 := 3) (p1 := 40) (h0 := by decide)) zw_L_55 zn_L_low (zcR_of rfl) zs0 rfl (Nat.le_of_ble_eq_true rfl) dL_act_52) (by decide +kernel) rfl ?_
  refine zj_iconst 56 X (v := 4) dL_act_55 (by decide) rfl ?_
  refine zj_isub 57 X dL_act_56 rfl ?_
  refine zj_ti (-1) (by decide +kernel) ?_
  refine zc_gi 60 1 6 1 (zr_Lw (n := 4) (As := [.ref (a 0), .int 6, .int 2, .int (-1)]) (rest := []) X (zc_L_does_6 (l := l) (D := D) (C := C) (a := a) (u := u) h hfl) (zG_t 242 (by decide +kernel) rfl) (zG_t 243 (by decide +kernel) rfl) (zG_t 0 (by decide +kernel) rfl) (zG_t 244 (by decide +kernel) rfl) ⟨by decide +kernel, by decide +kernel, by decide +kernel⟩ (zcR_of rfl) FA.1 hA rfl (Nat.le_of_ble_eq_true rfl) dL_act_57) FA hA rfl rfl rfl rfl ?_
  have X := zXg (g' := 1) X
  exact ze_gi (by decide) (by decide) (by decide) X Y rfl dL_act_60
abbrev zR_L_areScoresSo : Room := { frames := 8, cells := 3, slots := 18, locals := 131 }
set_option maxHeartbeats 40000000 in
set_option maxRecDepth 100000 in
theorem zc_L_areScoresSo {l : Launch} {D : va_G} {C : ClassId × ClassId} {a : Nat → Nat} {u : zU} (h : zU1 u) (hfl : l.stackTraces = false) : zk_L l (.code yL_areScoresSo cL_areScoresSo 12 (some .boolean)) yL_areScoresSo zR_L_areScoresSo 3 18 [.ref (a 0), .int 0, .int 0, .int 0, .int 0] (zS C a u) D C (zQi D (zS C a u) 0 1) := by
  refine zk_l (by decide) (Nat.le_of_ble_eq_true rfl) ?_
  intro p e s m below meth c A X Y hD hA
  have FA : zFr D A (zS C a u) (zS C a u) := zFr_N hD
  show zJ _ _ _ _ _ _ _ _ _ _ _ _ _ _ _ _ _ 0 [(0, .ref (a 0)), (1, .int 0), (2, .int 0), (3, .int 0), (4, .int 0)] []
  refine zj_aload_n 1 X 0 dL_areScoresSo_0 rfl rfl ?_
  refine zj_iconst 2 X (v := 0) dL_areScoresSo_1 (by decide) rfl ?_
  refine zc_iq 5 (w := 0) 1 6 (zr_Vx (As := [.int 0]) (rest := []) X (zc_X4_score (l := l) (D := D) (C := C) (a := a) (u := u) (p0 := 0) (hfl := hfl)) zw_L_106 zn_X4_score (zcR_of rfl) zO_S0 FA.1 hA rfl (Nat.le_of_ble_eq_true rfl) dL_areScoresSo_2) (zq_score_0 h) FA hA rfl rfl rfl ?_
  refine zj_iload_n 6 X 2 dL_areScoresSo_5 rfl rfl ?_
  refine zj_isub 7 X dL_areScoresSo_6 rfl ?_
  refine zj_ti 0 (by decide +kernel) ?_
  refine zj_istore 9 X (lv1 := [(0, .ref (a 0)), (1, .int 0), (2, .int 0), (3, .int 0), (4, .int 0), (5, .int 0)]) [1, 2, 3, 4, 5, 0] dL_areScoresSo_7 (by decide) rfl rfl ?_
  refine zj_aload_n 10 X 0 dL_areScoresSo_9 rfl rfl ?_
  refine zj_iconst 11 X (v := 1) dL_areScoresSo_10 (by decide) rfl ?_
  refine zc_iq 14 (w := 0) 2 12 (zr_Vx (As := [.int 1]) (rest := []) X (zc_X4_score (l := l) (D := D) (C := C) (a := a) (u := u) (p0 := 1) (hfl := hfl)) zw_L_106 zn_X4_score (zcR_of rfl) zO_S0 FA.1 hA rfl (Nat.le_of_ble_eq_true rfl) dL_areScoresSo_11) (zq_score_1 h) FA hA rfl rfl rfl ?_
  refine zj_iload_n 15 X 3 dL_areScoresSo_14 rfl rfl ?_
  refine zj_isub 16 X dL_areScoresSo_15 rfl ?_
  refine zj_ti 0 (by decide +kernel) ?_
  refine zj_istore 18 X (lv1 := [(0, .ref (a 0)), (1, .int 0), (2, .int 0), (3, .int 0), (4, .int 0), (5, .int 0), (6, .int 0)]) [1, 2, 3, 4, 5, 6, 0] dL_areScoresSo_16 (by decide) rfl rfl ?_
  refine zj_aload_n 19 X 0 dL_areScoresSo_18 rfl rfl ?_
  refine zj_iconst 20 X (v := 2) dL_areScoresSo_19 (by decide) rfl ?_
  refine zc_iq 23 (w := 0) 3 18 (zr_Vx (As := [.int 2]) (rest := []) X (zc_X4_score (l := l) (D := D) (C := C) (a := a) (u := u) (p0 := 2) (hfl := hfl)) zw_L_106 zn_X4_score (zcR_of rfl) zO_S0 FA.1 hA rfl (Nat.le_of_ble_eq_true rfl) dL_areScoresSo_20) (zq_score_2 h) FA hA rfl rfl rfl ?_
  refine zj_iload 25 X 4 dL_areScoresSo_23 rfl rfl ?_
  refine zj_isub 26 X dL_areScoresSo_25 rfl ?_
  refine zj_ti 0 (by decide +kernel) ?_
  refine zj_istore 28 X (lv1 := [(0, .ref (a 0)), (1, .int 0), (2, .int 0), (3, .int 0), (4, .int 0), (5, .int 0), (6, .int 0), (7, .int 0)]) [1, 2, 3, 4, 5, 6, 7, 0] dL_areScoresSo_26 (by decide) rfl rfl ?_
  refine zj_aload_n 29 X 0 dL_areScoresSo_28 rfl rfl ?_
  refine zc_iv 32 0 (zr_V (As := []) (rest := []) (wsub := zS C a u) X (zc_X4_phase (l := l) (D := D) (C := C) (a := a) (u := u)) zw_L_60 zn_X4_phase (zcR_of rfl) zO_S0 zsI rfl (Nat.le_of_ble_eq_true rfl) dL_areScoresSo_29) (zq_phase h) rfl ?_
  refine zj_bipush 34 X (v := 6) dL_areScoresSo_32 (by decide) rfl ?_
  refine zj_icmp_ne 37 43 X dL_areScoresSo_34 (by decide) rfl (fun _ => ?_) (fun h9 => absurd h9 (by decide))
  refine zj_iload 45 X 5 dL_areScoresSo_43 rfl rfl ?_
  refine zj_if_ne 48 62 X dL_areScoresSo_45 (by decide) rfl (fun h9 => absurd h9 (by decide)) (fun _ => ?_)
  refine zj_iload 50 X 6 dL_areScoresSo_48 rfl rfl ?_
  refine zj_if_ne 53 62 X dL_areScoresSo_50 (by decide) rfl (fun h9 => absurd h9 (by decide)) (fun _ => ?_)
  refine zj_iload 55 X 7 dL_areScoresSo_53 rfl rfl ?_
  refine zj_if_ne 58 62 X dL_areScoresSo_55 (by decide) rfl (fun h9 => absurd h9 (by decide)) (fun _ => ?_)
  refine zj_iconst 59 X (v := 1) dL_areScoresSo_58 (by decide) rfl ?_
  refine zj_goto 63 X dL_areScoresSo_59 (by decide) ?_
  exact ze_gz (by decide) (by decide) (by decide) X Y (by decide) rfl dL_areScoresSo_63
