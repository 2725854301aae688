abbrev zR_L_isGameSo : Room := { frames := 8, cells := 61, slots := 366, locals := 132 }
set_option maxHeartbeats 40000000 in
set_option maxRecDepth 100000 in
theorem zc_L_isGameSo {l : Launch} {D : va_G} {C : ClassId × ClassId} {a : Nat → Nat} {u : zU} (h : zU1 u) (hfl : l.stackTraces = false) : zk_L l (.code yL_isGameSo cL_isGameSo 8 (some .boolean)) yL_isGameSo zR_L_isGameSo 61 366 [.ref (a 0)] (zS C a u) D C (zQi D (zS C a u) 1 1) := by
  refine zk_l (by decide) (Nat.le_of_ble_eq_true rfl) ?_
  intro p e s m below meth c A X Y hD hA
  have FA : zFr D A (zS C a u) (zS C a u) := zFr_N hD
  show zJ _ _ _ _ _ _ _ _ _ _ _ _ _ _ _ _ _ 0 [(0, .ref (a 0))] []
  refine zj_aload_n 1 X 0 dL_isGameSo_0 rfl rfl ?_
  refine zc_iv 4 0 (zr_V (As := []) (rest := []) (wsub := zS C a u) X (zc_X4_phase (l := l) (D := D) (C := C) (a := a) (u := u)) zw_L_60 zn_X4_phase (zcR_of rfl) zO_S0 zsI rfl (Nat.le_of_ble_eq_true rfl) dL_isGameSo_1) (zq_phase h) rfl ?_
  refine zj_istore_n 5 X (lv1 := [(0, .ref (a 0)), (1, .int 0)]) [1, 0] dL_isGameSo_4 (by decide) rfl rfl ?_
  refine zj_aload_n 6 X 0 dL_isGameSo_5 rfl rfl ?_
  refine zc_iv 9 (-1) (zr_V (As := []) (rest := []) (wsub := zS C a u) X (zc_X4_contract (l := l) (D := D) (C := C) (a := a) (u := u)) zw_L_91 zn_X4_contract (zcR_of rfl) zO_S0 zsI rfl (Nat.le_of_ble_eq_true rfl) dL_isGameSo_6) (zq_contract h) rfl ?_
  refine zj_istore_n 10 X (lv1 := [(0, .ref (a 0)), (1, .int 0), (2, .int (-1))]) [1, 2, 0] dL_isGameSo_9 (by decide) rfl rfl ?_
  refine zj_aload_n 11 X 0 dL_isGameSo_10 rfl rfl ?_
  refine zc_gi 14 1 6 1 (zr_Lw (n := 1) (As := [.ref (a 0)]) (rest := []) X (zc_L_value (l := l) (D := D) (C := C) (a := a) (u := u) h hfl) (zG_t 549 (by decide +kernel) rfl) (zG_t 550 (by decide +kernel) rfl) (zG_t 0 (by decide +kernel) rfl) (zG_t 551 (by decide +kernel) rfl) ⟨by decide +kernel, by decide +kernel, by decide +kernel⟩ (zcR_of rfl) FA.1 hA rfl (Nat.le_of_ble_eq_true rfl) dL_isGameSo_11) FA hA rfl rfl rfl rfl ?_
  have X := zXg (g' := 1) X
  refine zj_istore_n 15 X (lv1 := [(0, .ref (a 0)), (1, .int 0), (2, .int (-1)), (3, .int (-99999))]) [1, 2, 3, 0] dL_isGameSo_14 (by decide) rfl rfl ?_
  refine zj_iload_n 16 X 2 dL_isGameSo_15 rfl rfl ?_
  refine zj_if_lt 19 23 X dL_isGameSo_16 (by decide) rfl (fun _ => ?_) (fun h9 => absurd h9 (by decide))
  refine zj_iconst 24 X (v := 0) dL_isGameSo_23 (by decide) rfl ?_
  refine zj_iload_n 25 X 1 dL_isGameSo_24 rfl rfl ?_
  refine zj_iconst 26 X (v := 5) dL_isGameSo_25 (by decide) rfl ?_
  refine zj_icmp_lt 29 33 X dL_isGameSo_26 (by decide) rfl (fun _ => ?_) (fun h9 => absurd h9 (by decide))
  refine zj_iconst 34 X (v := 0) dL_isGameSo_33 (by decide) rfl ?_
  refine zj_icmp_ne 37 145 X dL_isGameSo_34 (by decide) rfl (fun h9 => absurd h9 (by decide)) (fun _ => ?_)
  refine zj_iload_n 38 X 3 dL_isGameSo_37 rfl rfl ?_
  refine zj_ldc 40 X (v := (-99999)) (zG_t 505 (by decide +kernel) rfl) dL_isGameSo_38 rfl ?_
  refine zj_icmp_ne 43 47 X dL_isGameSo_40 (by decide) rfl (fun h9 => absurd h9 (by decide)) (fun _ => ?_)
  refine zj_iconst 44 X (v := 1) dL_isGameSo_43 (by decide) rfl ?_
  refine zj_goto 48 X dL_isGameSo_44 (by decide) ?_
  refine zj_iload_n 49 X 2 dL_isGameSo_48 rfl rfl ?_
  refine zj_if_ge 52 56 X dL_isGameSo_49 (by decide) rfl (fun h9 => absurd h9 (by decide)) (fun _ => ?_)
  refine zj_iconst 53 X (v := 1) dL_isGameSo_52 (by decide) rfl ?_
  refine zj_goto 57 X dL_isGameSo_53 (by decide) ?_
  refine zj_icmp_ne 60 145 X dL_isGameSo_57 (by decide) rfl (fun h9 => absurd h9 (by decide)) (fun _ => ?_)
  refine zj_aload_n 61 X 0 dL_isGameSo_60 rfl rfl ?_
  refine zc_iv 64 (-1) (zr_V (As := []) (rest := []) (wsub := zS C a u) X (zc_X4_declarer (l := l) (D := D) (C := C) (a := a) (u := u)) zw_L_88 zn_X4_declarer (zcR_of rfl) zO_S0 zsI rfl (Nat.le_of_ble_eq_true rfl) dL_isGameSo_61) (zq_declarer h) rfl ?_
  refine zj_if_lt 67 71 X dL_isGameSo_64 (by decide) rfl (fun _ => ?_) (fun h9 => absurd h9 (by decide))
  refine zj_iconst 72 X (v := 0) dL_isGameSo_71 (by decide) rfl ?_
  refine zj_iload_n 73 X 1 dL_isGameSo_72 rfl rfl ?_
  refine zj_iconst 74 X (v := 1) dL_isGameSo_73 (by decide) rfl ?_
  refine zj_icmp_le 77 87 X dL_isGameSo_74 (by decide) rfl (fun _ => ?_) (fun h9 => absurd h9 (by decide))
  refine zj_iconst 88 X (v := 0) dL_isGameSo_87 (by decide) rfl ?_
  refine zj_icmp_ne 91 145 X dL_isGameSo_88 (by decide) rfl (fun h9 => absurd h9 (by decide)) (fun _ => ?_)
  refine zj_iload_n 92 X 1 dL_isGameSo_91 rfl rfl ?_
  refine zj_iconst 93 X (v := 2) dL_isGameSo_92 (by decide) rfl ?_
  refine zj_icmp_lt 96 112 X dL_isGameSo_93 (by decide) rfl (fun _ => ?_) (fun h9 => absurd h9 (by decide))
  refine zj_iload_n 113 X 2 dL_isGameSo_112 rfl rfl ?_
  refine zj_bipush 115 X (v := 6) dL_isGameSo_113 (by decide) rfl ?_
  refine zj_icmp_ne 118 131 X dL_isGameSo_115 (by decide) rfl (fun _ => ?_) (fun h9 => absurd h9 (by decide))
  refine zj_aload_n 132 X 0 dL_isGameSo_131 rfl rfl ?_
  refine zc_iv 135 0 (zr_V (As := []) (rest := []) (wsub := zS C a u) X (zc_X4_latestBid (l := l) (D := D) (C := C) (a := a) (u := u)) zw_L_67 zn_X4_latestBid (zcR_of rfl) zO_S0 zsI rfl (Nat.le_of_ble_eq_true rfl) dL_isGameSo_132) (zq_latestBid h) rfl ?_
  refine zj_sipush 138 X (v := 264) dL_isGameSo_135 (by decide) rfl ?_
  refine zj_icmp_gt 141 145 X dL_isGameSo_138 (by decide) rfl (fun h9 => absurd h9 (by decide)) (fun _ => ?_)
  refine zj_iconst 142 X (v := 1) dL_isGameSo_141 (by decide) rfl ?_
  refine zj_goto 146 X dL_isGameSo_142 (by decide) ?_
  refine zj_istore 148 X (lv1 := [(0, .ref (a 0)), (1, .int 0), (2, .int (-1)), (3, .int (-99999)), (4, .int 1)]) [1, 2, 3, 4, 0] dL_isGameSo_146 (by decide) rfl rfl ?_
  refine zj_iload_n 149 X 2 dL_isGameSo_148 rfl rfl ?_
  refine zj_if_lt 152 241 X dL_isGameSo_149 (by decide) rfl (fun _ => ?_) (fun h9 => absurd h9 (by decide))
  refine zj_iconst 242 X (v := 0) dL_isGameSo_241 (by decide) rfl ?_
  refine zj_istore 244 X (lv1 := [(0, .ref (a 0)), (1, .int 0), (2, .int (-1)), (3, .int (-99999)), (4, .int 1), (5, .int 0)]) [1, 2, 3, 4, 5, 0] dL_isGameSo_242 (by decide) rfl rfl ?_
  refine zj_iload 246 X 5 dL_isGameSo_244 rfl rfl ?_
  refine zj_iconst 247 X (v := 3) dL_isGameSo_246 (by decide) rfl ?_
  refine zj_icmp_ge 250 366 X dL_isGameSo_247 (by decide) rfl (fun h9 => absurd h9 (by decide)) (fun _ => ?_)
  refine zj_iload 252 X 4 dL_isGameSo_250 rfl rfl ?_
  refine zj_if_eq 255 366 X dL_isGameSo_252 (by decide) rfl (fun h9 => absurd h9 (by decide)) (fun _ => ?_)
  refine zj_iconst 256 X (v := 0) dL_isGameSo_255 (by decide) rfl ?_
  refine zj_istore 258 X (lv1 := [(0, .ref (a 0)), (1, .int 0), (2, .int (-1)), (3, .int (-99999)), (4, .int 1), (5, .int 0), (6, .int 0)]) [1, 2, 3, 4, 5, 6, 0] dL_isGameSo_256 (by decide) rfl rfl ?_
  refine zj_iload 260 X 6 dL_isGameSo_258 rfl rfl ?_
  refine zj_iconst 261 X (v := 5) dL_isGameSo_260 (by decide) rfl ?_
  refine zj_icmp_ge 264 360 X dL_isGameSo_261 (by decide) rfl (fun h9 => absurd h9 (by decide)) (fun _ => ?_)
  refine zj_iload 266 X 4 dL_isGameSo_264 rfl rfl ?_
  refine zj_if_eq 269 360 X dL_isGameSo_266 (by decide) rfl (fun h9 => absurd h9 (by decide)) (fun _ => ?_)
  refine zj_aload_n 270 X 0 dL_isGameSo_269 rfl rfl ?_
  refine zj_iload 272 X 5 dL_isGameSo_270 rfl rfl ?_
  refine zj_iload 274 X 6 dL_isGameSo_272 rfl rfl ?_
  refine zc_iq 277 (w := (-1)) 3 18 (zr_Vx (As := [.int 0, .int 0]) (rest := []) X (zc_X4_matadors (l := l) (D := D) (C := C) (a := a) (u := u) (p0 := 0) (p1 := 0) (hfl := hfl)) zw_L_112 zn_X4_matadors (zcR_of rfl) zO_S0 FA.1 hA rfl (Nat.le_of_ble_eq_true rfl) dL_isGameSo_274) (zq_matadors_0_0 h) FA hA rfl rfl rfl ?_
  refine zj_istore 279 X (lv1 := [(0, .ref (a 0)), (1, .int 0), (2, .int (-1)), (3, .int (-99999)), (4, .int 1), (5, .int 0), (6, .int 0), (7, .int (-1))]) [1, 2, 3, 4, 5, 6, 7, 0] dL_isGameSo_277 (by decide) rfl rfl ?_
  refine zj_iload 281 X 7 dL_isGameSo_279 rfl rfl ?_
  refine zj_if_eq 284 351 X dL_isGameSo_281 (by decide) rfl (fun h9 => absurd h9 (by decide)) (fun _ => ?_)
  refine zj_iload 286 X 7 dL_isGameSo_284 rfl rfl ?_
  refine zj_iload 288 X 6 dL_isGameSo_286 rfl rfl ?_
  refine zj_iconst 289 X (v := 4) dL_isGameSo_288 (by decide) rfl ?_
  refine zj_icmp_ne 292 296 X dL_isGameSo_289 (by decide) rfl (fun _ => ?_) (fun h9 => absurd h9 (by decide))
  refine zj_bipush 298 X (v := 11) dL_isGameSo_296 (by decide) rfl ?_
  refine zj_icmp_gt 301 351 X dL_isGameSo_298 (by decide) rfl (fun h9 => absurd h9 (by decide)) (fun _ => ?_)
  refine zj_iload 303 X 7 dL_isGameSo_301 rfl rfl ?_
  refine zj_iload 305 X 6 dL_isGameSo_303 rfl rfl ?_
  refine zj_iconst 306 X (v := 4) dL_isGameSo_305 (by decide) rfl ?_
  refine zj_icmp_ne 309 314 X dL_isGameSo_306 (by decide) rfl (fun _ => ?_) (fun h9 => absurd h9 (by decide))
  refine zj_bipush 316 X (v := (-11)) dL_isGameSo_314 (by decide) rfl ?_
  refine zj_icmp_lt 319 351 X dL_isGameSo_316 (by decide) rfl (fun h9 => absurd h9 (by decide)) (fun _ => ?_)
  refine zj_iload 321 X 7 dL_isGameSo_319 rfl rfl ?_
  refine zj_if_le 324 328 X dL_isGameSo_321 (by decide) rfl (fun _ => ?_) (fun h9 => absurd h9 (by decide))
  refine zj_iconst 329 X (v := 0) dL_isGameSo_328 (by decide) rfl ?_
  refine zj_aload_n 330 X 0 dL_isGameSo_329 rfl rfl ?_
  refine zj_iload 332 X 5 dL_isGameSo_330 rfl rfl ?_
  refine zj_iconst 333 X (v := 4) dL_isGameSo_332 (by decide) rfl ?_
  refine zc_iq 336 (w := (-1)) 5 30 (zr_Vx (As := [.int 0, .int 4]) (rest := [.int 0]) X (zc_X4_matadors (l := l) (D := D) (C := C) (a := a) (u := u) (p0 := 0) (p1 := 4) (hfl := hfl)) zw_L_112 zn_X4_matadors (zcR_of rfl) zO_S0 FA.1 hA rfl (Nat.le_of_ble_eq_true rfl) dL_isGameSo_333) (zq_matadors_0_4 h) FA hA rfl rfl rfl ?_
  refine zj_if_le 339 343 X dL_isGameSo_336 (by decide) rfl (fun _ => ?_) (fun h9 => absurd h9 (by decide))
  refine zj_iconst 344 X (v := 0) dL_isGameSo_343 (by decide) rfl ?_
  refine zj_icmp_ne 347 351 X dL_isGameSo_344 (by decide) rfl (fun h9 => absurd h9 (by decide)) (fun _ => ?_)
  refine zj_iconst 348 X (v := 1) dL_isGameSo_347 (by decide) rfl ?_
  refine zj_goto 352 X dL_isGameSo_348 (by decide) ?_
  refine zj_istore 354 X (lv1 := [(0, .ref (a 0)), (1, .int 0), (2, .int (-1)), (3, .int (-99999)), (4, .int 1), (5, .int 0), (6, .int 0), (7, .int (-1))]) [1, 2, 3, 4, 0, 5, 6, 7] dL_isGameSo_352 (by decide) rfl rfl ?_
  refine zj_iinc 357 X (v := 1) (lv1 := [(0, .ref (a 0)), (1, .int 0), (2, .int (-1)), (3, .int (-99999)), (4, .int 1), (5, .int 0), (6, .int 1), (7, .int (-1))]) 6 [1, 2, 3, 4, 5, 6, 0, 7] dL_isGameSo_354 rfl (by decide) (by decide) rfl rfl ?_
  refine zj_goto 258 X dL_isGameSo_357 (by decide) ?_
  refine zj_iload 260 X 6 dL_isGameSo_258 rfl rfl ?_
  refine zj_iconst 261 X (v := 5) dL_isGameSo_260 (by decide) rfl ?_
  refine zj_icmp_ge 264 360 X dL_isGameSo_261 (by decide) rfl (fun h9 => absurd h9 (by decide)) (fun _ => ?_)
  refine zj_iload 266 X 4 dL_isGameSo_264 rfl rfl ?_
  refine zj_if_eq 269 360 X dL_isGameSo_266 (by decide) rfl (fun h9 => absurd h9 (by decide)) (fun _ => ?_)
  refine zj_aload_n 270 X 0 dL_isGameSo_269 rfl rfl ?_
  refine zj_iload 272 X 5 dL_isGameSo_270 rfl rfl ?_
  refine zj_iload 274 X 6 dL_isGameSo_272 rfl rfl ?_
  refine zc_iq 277 (w := (-1)) 7 42 (zr_Vx (As := [.int 0, .int 1]) (rest := []) X (zc_X4_matadors (l := l) (D := D) (C := C) (a := a) (u := u) (p0 := 0) (p1 := 1) (hfl := hfl)) zw_L_112 zn_X4_matadors (zcR_of rfl) zO_S0 FA.1 hA rfl (Nat.le_of_ble_eq_true rfl) dL_isGameSo_274) (zq_matadors_0_1 h) FA hA rfl rfl rfl ?_
  refine zj_istore 279 X (lv1 := [(0, .ref (a 0)), (1, .int 0), (2, .int (-1)), (3, .int (-99999)), (4, .int 1), (5, .int 0), (6, .int 1), (7, .int (-1))]) [1, 2, 3, 4, 5, 6, 7, 0] dL_isGameSo_277 (by decide) rfl rfl ?_
  refine zj_iload 281 X 7 dL_isGameSo_279 rfl rfl ?_
  refine zj_if_eq 284 351 X dL_isGameSo_281 (by decide) rfl (fun h9 => absurd h9 (by decide)) (fun _ => ?_)
  refine zj_iload 286 X 7 dL_isGameSo_284 rfl rfl ?_
  refine zj_iload 288 X 6 dL_isGameSo_286 rfl rfl ?_
  refine zj_iconst 289 X (v := 4) dL_isGameSo_288 (by decide) rfl ?_
  refine zj_icmp_ne 292 296 X dL_isGameSo_289 (by decide) rfl (fun _ => ?_) (fun h9 => absurd h9 (by decide))
  refine zj_bipush 298 X (v := 11) dL_isGameSo_296 (by decide) rfl ?_
  refine zj_icmp_gt 301 351 X dL_isGameSo_298 (by decide) rfl (fun h9 => absurd h9 (by decide)) (fun _ => ?_)
  refine zj_iload 303 X 7 dL_isGameSo_301 rfl rfl ?_
  refine zj_iload 305 X 6 dL_isGameSo_303 rfl rfl ?_
  refine zj_iconst 306 X (v := 4) dL_isGameSo_305 (by decide) rfl ?_
  refine zj_icmp_ne 309 314 X dL_isGameSo_306 (by decide) rfl (fun _ => ?_) (fun h9 => absurd h9 (by decide))
  refine zj_bipush 316 X (v := (-11)) dL_isGameSo_314 (by decide) rfl ?_
  refine zj_icmp_lt 319 351 X dL_isGameSo_316 (by decide) rfl (fun h9 => absurd h9 (by decide)) (fun _ => ?_)
  refine zj_iload 321 X 7 dL_isGameSo_319 rfl rfl ?_
  refine zj_if_le 324 328 X dL_isGameSo_321 (by decide) rfl (fun _ => ?_) (fun h9 => absurd h9 (by decide))
  refine zj_iconst 329 X (v := 0) dL_isGameSo_328 (by decide) rfl ?_
  refine zj_aload_n 330 X 0 dL_isGameSo_329 rfl rfl ?_
  refine zj_iload 332 X 5 dL_isGameSo_330 rfl rfl ?_
  refine zj_iconst 333 X (v := 4) dL_isGameSo_332 (by decide) rfl ?_
  refine zc_iq 336 (w := (-1)) 9 54 (zr_Vx (As := [.int 0, .int 4]) (rest := [.int 0]) X (zc_X4_matadors (l := l) (D := D) (C := C) (a := a) (u := u) (p0 := 0) (p1 := 4) (hfl := hfl)) zw_L_112 zn_X4_matadors (zcR_of rfl) zO_S0 FA.1 hA rfl (Nat.le_of_ble_eq_true rfl) dL_isGameSo_333) (zq_matadors_0_4 h) FA hA rfl rfl rfl ?_
  refine zj_if_le 339 343 X dL_isGameSo_336 (by decide) rfl (fun _ => ?_) (fun h9 => absurd h9 (by decide))
  refine zj_iconst 344 X (v := 0) dL_isGameSo_343 (by decide) rfl ?_
  refine zj_icmp_ne 347 351 X dL_isGameSo_344 (by decide) rfl (fun h9 => absurd h9 (by decide)) (fun _ => ?_)
  refine zj_iconst 348 X (v := 1) dL_isGameSo_347 (by decide) rfl ?_
  refine zj_goto 352 X dL_isGameSo_348 (by decide) ?_
  refine zj_istore 354 X (lv1 := [(0, .ref (a 0)), (1, .int 0), (2, .int (-1)), (3, .int (-99999)), (4, .int 1), (5, .int 0), (6, .int 1), (7, .int (-1))]) [1, 2, 3, 4, 0, 5, 6, 7] dL_isGameSo_352 (by decide) rfl rfl ?_
  refine zj_iinc 357 X (v := 2) (lv1 := [(0, .ref (a 0)), (1, .int 0), (2, .int (-1)), (3, .int (-99999)), (4, .int 1), (5, .int 0), (6, .int 2), (7, .int (-1))]) 6 [1, 2, 3, 4, 5, 6, 0, 7] dL_isGameSo_354 rfl (by decide) (by decide) rfl rfl ?_
  refine zj_goto 258 X dL_isGameSo_357 (by decide) ?_
  refine zj_iload 260 X 6 dL_isGameSo_258 rfl rfl ?_
  refine zj_iconst 261 X (v := 5) dL_isGameSo_260 (by decide) rfl ?_
  refine zj_icmp_ge 264 360 X dL_isGameSo_261 (by decide) rfl (fun h9 => absurd h9 (by decide)) (fun _ => ?_)
  refine zj_iload 266 X 4 dL_isGameSo_264 rfl rfl ?_
  refine zj_if_eq 269 360 X dL_isGameSo_266 (by decide) rfl (fun h9 => absurd h9 (by decide)) (fun _ => ?_)
  refine zj_aload_n 270 X 0 dL_isGameSo_269 rfl rfl ?_
  refine zj_iload 272 X 5 dL_isGameSo_270 rfl rfl ?_
  refine zj_iload 274 X 6 dL_isGameSo_272 rfl rfl ?_
  refine zc_iq 277 (w := (-1)) 11 66 (zr_Vx (As := [.int 0, .int 2]) (rest := []) X (zc_X4_matadors (l := l) (D := D) (C := C) (a := a) (u := u) (p0 := 0) (p1 := 2) (hfl := hfl)) zw_L_112 zn_X4_matadors (zcR_of rfl) zO_S0 FA.1 hA rfl (Nat.le_of_ble_eq_true rfl) dL_isGameSo_274) (zq_matadors_0_2 h) FA hA rfl rfl rfl ?_
  refine zj_istore 279 X (lv1 := [(0, .ref (a 0)), (1, .int 0), (2, .int (-1)), (3, .int (-99999)), (4, .int 1), (5, .int 0), (6, .int 2), (7, .int (-1))]) [1, 2, 3, 4, 5, 6, 7, 0] dL_isGameSo_277 (by decide) rfl rfl ?_
  refine zj_iload 281 X 7 dL_isGameSo_279 rfl rfl ?_
  refine zj_if_eq 284 351 X dL_isGameSo_281 (by decide) rfl (fun h9 => absurd h9 (by decide)) (fun _ => ?_)
  refine zj_iload 286 X 7 dL_isGameSo_284 rfl rfl ?_
  refine zj_iload 288 X 6 dL_isGameSo_286 rfl rfl ?_
  refine zj_iconst 289 X (v := 4) dL_isGameSo_288 (by decide) rfl ?_
  refine zj_icmp_ne 292 296 X dL_isGameSo_289 (by decide) rfl (fun _ => ?_) (fun h9 => absurd h9 (by decide))
  refine zj_bipush 298 X (v := 11) dL_isGameSo_296 (by decide) rfl ?_
  refine zj_icmp_gt 301 351 X dL_isGameSo_298 (by decide) rfl (fun h9 => absurd h9 (by decide)) (fun _ => ?_)
  refine zj_iload 303 X 7 dL_isGameSo_301 rfl rfl ?_
  refine zj_iload 305 X 6 dL_isGameSo_303 rfl rfl ?_
  refine zj_iconst 306 X (v := 4) dL_isGameSo_305 (by decide) rfl ?_
  refine zj_icmp_ne 309 314 X dL_isGameSo_306 (by decide) rfl (fun _ => ?_) (fun h9 => absurd h9 (by decide))
  refine zj_bipush 316 X (v := (-11)) dL_isGameSo_314 (by decide) rfl ?_
  refine zj_icmp_lt 319 351 X dL_isGameSo_316 (by decide) rfl (fun h9 => absurd h9 (by decide)) (fun _ => ?_)
  refine zj_iload 321 X 7 dL_isGameSo_319 rfl rfl ?_
  refine zj_if_le 324 328 X dL_isGameSo_321 (by decide) rfl (fun _ => ?_) (fun h9 => absurd h9 (by decide))
  refine zj_iconst 329 X (v := 0) dL_isGameSo_328 (by decide) rfl ?_
  refine zj_aload_n 330 X 0 dL_isGameSo_329 rfl rfl ?_
  refine zj_iload 332 X 5 dL_isGameSo_330 rfl rfl ?_
  refine zj_iconst 333 X (v := 4) dL_isGameSo_332 (by decide) rfl ?_
  refine zc_iq 336 (w := (-1)) 13 78 (zr_Vx (As := [.int 0, .int 4]) (rest := [.int 0]) X (zc_X4_matadors (l := l) (D := D) (C := C) (a := a) (u := u) (p0 := 0) (p1 := 4) (hfl := hfl)) zw_L_112 zn_X4_matadors (zcR_of rfl) zO_S0 FA.1 hA rfl (Nat.le_of_ble_eq_true rfl) dL_isGameSo_333) (zq_matadors_0_4 h) FA hA rfl rfl rfl ?_
  refine zj_if_le 339 343 X dL_isGameSo_336 (by decide) rfl (fun _ => ?_) (fun h9 => absurd h9 (by decide))
  refine zj_iconst 344 X (v := 0) dL_isGameSo_343 (by decide) rfl ?_
  refine zj_icmp_ne 347 351 X dL_isGameSo_344 (by decide) rfl (fun h9 => absurd h9 (by decide)) (fun _ => ?_)
  refine zj_iconst 348 X (v := 1) dL_isGameSo_347 (by decide) rfl ?_
  refine zj_goto 352 X dL_isGameSo_348 (by decide) ?_
  refine zj_istore 354 X (lv1 := [(0, .ref (a 0)), (1, .int 0), (2, .int (-1)), (3, .int (-99999)), (4, .int 1), (5, .int 0), (6, .int 2), (7, .int (-1))]) [1, 2, 3, 4, 0, 5, 6, 7] dL_isGameSo_352 (by decide) rfl rfl ?_
  refine zj_iinc 357 X (v := 3) (lv1 := [(0, .ref (a 0)), (1, .int 0), (2, .int (-1)), (3, .int (-99999)), (4, .int 1), (5, .int 0), (6, .int 3), (7, .int (-1))]) 6 [1, 2, 3, 4, 5, 6, 0, 7] dL_isGameSo_354 rfl (by decide) (by decide) rfl rfl ?_
  refine zj_goto 258 X dL_isGameSo_357 (by decide) ?_
  refine zj_iload 260 X 6 dL_isGameSo_258 rfl rfl ?_
  refine zj_iconst 261 X (v := 5) dL_isGameSo_260 (by decide) rfl ?_
  refine zj_icmp_ge 264 360 X dL_isGameSo_261 (by decide) rfl (fun h9 => absurd h9 (by decide)) (fun _ => ?_)
  refine zj_iload 266 X 4 dL_isGameSo_264 rfl rfl ?_
  refine zj_if_eq 269 360 X dL_isGameSo_266 (by decide) rfl (fun h9 => absurd h9 (by decide)) (fun _ => ?_)
  refine zj_aload_n 270 X 0 dL_isGameSo_269 rfl rfl ?_
  refine zj_iload 272 X 5 dL_isGameSo_270 rfl rfl ?_
  refine zj_iload 274 X 6 dL_isGameSo_272 rfl rfl ?_
  refine zc_iq 277 (w := (-1)) 15 90 (zr_Vx (As := [.int 0, .int 3]) (rest := []) X (zc_X4_matadors (l := l) (D := D) (C := C) (a := a) (u := u) (p0 := 0) (p1 := 3) (hfl := hfl)) zw_L_112 zn_X4_matadors (zcR_of rfl) zO_S0 FA.1 hA rfl (Nat.le_of_ble_eq_true rfl) dL_isGameSo_274) (zq_matadors_0_3 h) FA hA rfl rfl rfl ?_
  refine zj_istore 279 X (lv1 := [(0, .ref (a 0)), (1, .int 0), (2, .int (-1)), (3, .int (-99999)), (4, .int 1), (5, .int 0), (6, .int 3), (7, .int (-1))]) [1, 2, 3, 4, 5, 6, 7, 0] dL_isGameSo_277 (by decide) rfl rfl ?_
  refine zj_iload 281 X 7 dL_isGameSo_279 rfl rfl ?_
  refine zj_if_eq 284 351 X dL_isGameSo_281 (by decide) rfl (fun h9 => absurd h9 (by decide)) (fun _ => ?_)
  refine zj_iload 286 X 7 dL_isGameSo_284 rfl rfl ?_
  refine zj_iload 288 X 6 dL_isGameSo_286 rfl rfl ?_
  refine zj_iconst 289 X (v := 4) dL_isGameSo_288 (by decide) rfl ?_
  refine zj_icmp_ne 292 296 X dL_isGameSo_289 (by decide) rfl (fun _ => ?_) (fun h9 => absurd h9 (by decide))
  refine zj_bipush 298 X (v := 11) dL_isGameSo_296 (by decide) rfl ?_
  refine zj_icmp_gt 301 351 X dL_isGameSo_298 (by decide) rfl (fun h9 => absurd h9 (by decide)) (fun _ => ?_)
  refine zj_iload 303 X 7 dL_isGameSo_301 rfl rfl ?_
  refine zj_iload 305 X 6 dL_isGameSo_303 rfl rfl ?_
  refine zj_iconst 306 X (v := 4) dL_isGameSo_305 (by decide) rfl ?_
  refine zj_icmp_ne 309 314 X dL_isGameSo_306 (by decide) rfl (fun _ => ?_) (fun h9 => absurd h9 (by decide))
  refine zj_bipush 316 X (v := (-11)) dL_isGameSo_314 (by decide) rfl ?_
  refine zj_icmp_lt 319 351 X dL_isGameSo_316 (by decide) rfl (fun h9 => absurd h9 (by decide)) (fun _ => ?_)
  refine zj_iload 321 X 7 dL_isGameSo_319 rfl rfl ?_
  refine zj_if_le 324 328 X dL_isGameSo_321 (by decide) rfl (fun _ => ?_) (fun h9 => absurd h9 (by decide))
  refine zj_iconst 329 X (v := 0) dL_isGameSo_328 (by decide) rfl ?_
  refine zj_aload_n 330 X 0 dL_isGameSo_329 rfl rfl ?_
  refine zj_iload 332 X 5 dL_isGameSo_330 rfl rfl ?_
  refine zj_iconst 333 X (v := 4) dL_isGameSo_332 (by decide) rfl ?_
  refine zc_iq 336 (w := (-1)) 17 102 (zr_Vx (As := [.int 0, .int 4]) (rest := [.int 0]) X (zc_X4_matadors (l := l) (D := D) (C := C) (a := a) (u := u) (p0 := 0) (p1 := 4) (hfl := hfl)) zw_L_112 zn_X4_matadors (zcR_of rfl) zO_S0 FA.1 hA rfl (Nat.le_of_ble_eq_true rfl) dL_isGameSo_333) (zq_matadors_0_4 h) FA hA rfl rfl rfl ?_
  refine zj_if_le 339 343 X dL_isGameSo_336 (by decide) rfl (fun _ => ?_) (fun h9 => absurd h9 (by decide))
  refine zj_iconst 344 X (v := 0) dL_isGameSo_343 (by decide) rfl ?_
  refine zj_icmp_ne 347 351 X dL_isGameSo_344 (by decide) rfl (fun h9 => absurd h9 (by decide)) (fun _ => ?_)
  refine zj_iconst 348 X (v := 1) dL_isGameSo_347 (by decide) rfl ?_
  refine zj_goto 352 X dL_isGameSo_348 (by decide) ?_
  refine zj_istore 354 X (lv1 := [(0, .ref (a 0)), (1, .int 0), (2, .int (-1)), (3, .int (-99999)), (4, .int 1), (5, .int 0), (6, .int 3), (7, .int (-1))]) [1, 2, 3, 4, 0, 5, 6, 7] dL_isGameSo_352 (by decide) rfl rfl ?_
  refine zj_iinc 357 X (v := 4) (lv1 := [(0, .ref (a 0)), (1, .int 0), (2, .int (-1)), (3, .int (-99999)), (4, .int 1), (5, .int 0), (6, .int 4), (7, .int (-1))]) 6 [1, 2, 3, 4, 5, 6, 0, 7] dL_isGameSo_354 rfl (by decide) (by decide) rfl rfl ?_
  refine zj_goto 258 X dL_isGameSo_357 (by decide) ?_
  refine zj_iload 260 X 6 dL_isGameSo_258 rfl rfl ?_
  refine zj_iconst 261 X (v := 5) dL_isGameSo_260 (by decide) rfl ?_
  refine zj_icmp_ge 264 360 X dL_isGameSo_261 (by decide) rfl (fun h9 => absurd h9 (by decide)) (fun _ => ?_)
  refine zj_iload 266 X 4 dL_isGameSo_264 rfl rfl ?_
  refine zj_if_eq 269 360 X dL_isGameSo_266 (by decide) rfl (fun h9 => absurd h9 (by decide)) (fun _ => ?_)
  refine zj_aload_n 270 X 0 dL_isGameSo_269 rfl rfl ?_
  refine zj_iload 272 X 5 dL_isGameSo_270 rfl rfl ?_
  refine zj_iload 274 X 6 dL_isGameSo_272 rfl rfl ?_
  refine zc_iq 277 (w := (-1)) 19 114 (zr_Vx (As := [.int 0, .int 4]) (rest := []) X (zc_X4_matadors (l := l) (D := D) (C := C) (a := a) (u := u) (p0 := 0) (p1 := 4) (hfl := hfl)) zw_L_112 zn_X4_matadors (zcR_of rfl) zO_S0 FA.1 hA rfl (Nat.le_of_ble_eq_true rfl) dL_isGameSo_274) (zq_matadors_0_4 h) FA hA rfl rfl rfl ?_
  refine zj_istore 279 X (lv1 := [(0, .ref (a 0)), (1, .int 0), (2, .int (-1)), (3, .int (-99999)), (4, .int 1), (5, .int 0), (6, .int 4), (7, .int (-1))]) [1, 2, 3, 4, 5, 6, 7, 0] dL_isGameSo_277 (by decide) rfl rfl ?_
  refine zj_iload 281 X 7 dL_isGameSo_279 rfl rfl ?_
  refine zj_if_eq 284 351 X dL_isGameSo_281 (by decide) rfl (fun h9 => absurd h9 (by decide)) (fun _ => ?_)
  refine zj_iload 286 X 7 dL_isGameSo_284 rfl rfl ?_
  refine zj_iload 288 X 6 dL_isGameSo_286 rfl rfl ?_
  refine zj_iconst 289 X (v := 4) dL_isGameSo_288 (by decide) rfl ?_
  refine zj_icmp_ne 292 296 X dL_isGameSo_289 (by decide) rfl (fun h9 => absurd h9 (by decide)) (fun _ => ?_)
  refine zj_iconst 293 X (v := 4) dL_isGameSo_292 (by decide) rfl ?_
  refine zj_goto 298 X dL_isGameSo_293 (by decide) ?_
  refine zj_icmp_gt 301 351 X dL_isGameSo_298 (by decide) rfl (fun h9 => absurd h9 (by decide)) (fun _ => ?_)
  refine zj_iload 303 X 7 dL_isGameSo_301 rfl rfl ?_
  refine zj_iload 305 X 6 dL_isGameSo_303 rfl rfl ?_
  refine zj_iconst 306 X (v := 4) dL_isGameSo_305 (by decide) rfl ?_
  refine zj_icmp_ne 309 314 X dL_isGameSo_306 (by decide) rfl (fun h9 => absurd h9 (by decide)) (fun _ => ?_)
  refine zj_bipush 311 X (v := (-4)) dL_isGameSo_309 (by decide) rfl ?_
  refine zj_goto 316 X dL_isGameSo_311 (by decide) ?_
  refine zj_icmp_lt 319 351 X dL_isGameSo_316 (by decide) rfl (fun h9 => absurd h9 (by decide)) (fun _ => ?_)
  refine zj_iload 321 X 7 dL_isGameSo_319 rfl rfl ?_
  refine zj_if_le 324 328 X dL_isGameSo_321 (by decide) rfl (fun _ => ?_) (fun h9 => absurd h9 (by decide))
  refine zj_iconst 329 X (v := 0) dL_isGameSo_328 (by decide) rfl ?_
  refine zj_aload_n 330 X 0 dL_isGameSo_329 rfl rfl ?_
  refine zj_iload 332 X 5 dL_isGameSo_330 rfl rfl ?_
  refine zj_iconst 333 X (v := 4) dL_isGameSo_332 (by decide) rfl ?_
  refine zc_iq 336 (w := (-1)) 21 126 (zr_Vx (As := [.int 0, .int 4]) (rest := [.int 0]) X (zc_X4_matadors (l := l) (D := D) (C := C) (a := a) (u := u) (p0 := 0) (p1 := 4) (hfl := hfl)) zw_L_112 zn_X4_matadors (zcR_of rfl) zO_S0 FA.1 hA rfl (Nat.le_of_ble_eq_true rfl) dL_isGameSo_333) (zq_matadors_0_4 h) FA hA rfl rfl rfl ?_
  refine zj_if_le 339 343 X dL_isGameSo_336 (by decide) rfl (fun _ => ?_) (fun h9 => absurd h9 (by decide))
  refine zj_iconst 344 X (v := 0) dL_isGameSo_343 (by decide) rfl ?_
  refine zj_icmp_ne 347 351 X dL_isGameSo_344 (by decide) rfl (fun h9 => absurd h9 (by decide)) (fun _ => ?_)
  refine zj_iconst 348 X (v := 1) dL_isGameSo_347 (by decide) rfl ?_
  refine zj_goto 352 X dL_isGameSo_348 (by decide) ?_
  refine zj_istore 354 X (lv1 := [(0, .ref (a 0)), (1, .int 0), (2, .int (-1)), (3, .int (-99999)), (4, .int 1), (5, .int 0), (6, .int 4), (7, .int (-1))]) [1, 2, 3, 4, 0, 5, 6, 7] dL_isGameSo_352 (by decide) rfl rfl ?_
  refine zj_iinc 357 X (v := 5) (lv1 := [(0, .ref (a 0)), (1, .int 0), (2, .int (-1)), (3, .int (-99999)), (4, .int 1), (5, .int 0), (6, .int 5), (7, .int (-1))]) 6 [1, 2, 3, 4, 5, 6, 0, 7] dL_isGameSo_354 rfl (by decide) (by decide) rfl rfl ?_
  refine zj_goto 258 X dL_isGameSo_357 (by decide) ?_
  refine zj_iload 260 X 6 dL_isGameSo_258 rfl rfl ?_
  refine zj_iconst 261 X (v := 5) dL_isGameSo_260 (by decide) rfl ?_
  refine zj_icmp_ge 264 360 X dL_isGameSo_261 (by decide) rfl (fun _ => ?_) (fun h9 => absurd h9 (by decide))
  refine zj_iinc 363 X (v := 1) (lv1 := [(0, .ref (a 0)), (1, .int 0), (2, .int (-1)), (3, .int (-99999)), (4, .int 1), (5, .int 1), (6, .int 5), (7, .int (-1))]) 5 [1, 2, 3, 4, 5, 0, 6, 7] dL_isGameSo_360 rfl (by decide) (by decide) rfl rfl ?_
  refine zj_goto 244 X dL_isGameSo_363 (by decide) ?_
  refine zj_iload 246 X 5 dL_isGameSo_244 rfl rfl ?_
  refine zj_iconst 247 X (v := 3) dL_isGameSo_246 (by decide) rfl ?_
  refine zj_icmp_ge 250 366 X dL_isGameSo_247 (by decide) rfl (fun h9 => absurd h9 (by decide)) (fun _ => ?_)
  refine zj_iload 252 X 4 dL_isGameSo_250 rfl rfl ?_
  refine zj_if_eq 255 366 X dL_isGameSo_252 (by decide) rfl (fun h9 => absurd h9 (by decide)) (fun _ => ?_)
  refine zj_iconst 256 X (v := 0) dL_isGameSo_255 (by decide) rfl ?_
  refine zj_istore 258 X (lv1 := [(0, .ref (a 0)), (1, .int 0), (2, .int (-1)), (3, .int (-99999)), (4, .int 1), (5, .int 1), (6, .int 0), (7, .int (-1))]) [1, 2, 3, 4, 5, 6, 0, 7] dL_isGameSo_256 (by decide) rfl rfl ?_
  refine zj_iload 260 X 6 dL_isGameSo_258 rfl rfl ?_
  refine zj_iconst 261 X (v := 5) dL_isGameSo_260 (by decide) rfl ?_
  refine zj_icmp_ge 264 360 X dL_isGameSo_261 (by decide) rfl (fun h9 => absurd h9 (by decide)) (fun _ => ?_)
  refine zj_iload 266 X 4 dL_isGameSo_264 rfl rfl ?_
  refine zj_if_eq 269 360 X dL_isGameSo_266 (by decide) rfl (fun h9 => absurd h9 (by decide)) (fun _ => ?_)
  refine zj_aload_n 270 X 0 dL_isGameSo_269 rfl rfl ?_
  refine zj_iload 272 X 5 dL_isGameSo_270 rfl rfl ?_
  refine zj_iload 274 X 6 dL_isGameSo_272 rfl rfl ?_
  refine zc_iq 277 (w := 1) 23 138 (zr_Vx (As := [.int 1, .int 0]) (rest := []) X (zc_X4_matadors (l := l) (D := D) (C := C) (a := a) (u := u) (p0 := 1) (p1 := 0) (hfl := hfl)) zw_L_112 zn_X4_matadors (zcR_of rfl) zO_S0 FA.1 hA rfl (Nat.le_of_ble_eq_true rfl) dL_isGameSo_274) (zq_matadors_1_0 h) FA hA rfl rfl rfl ?_
  refine zj_istore 279 X (lv1 := [(0, .ref (a 0)), (1, .int 0), (2, .int (-1)), (3, .int (-99999)), (4, .int 1), (5, .int 1), (6, .int 0), (7, .int 1)]) [1, 2, 3, 4, 5, 6, 7, 0] dL_isGameSo_277 (by decide) rfl rfl ?_
  refine zj_iload 281 X 7 dL_isGameSo_279 rfl rfl ?_
  refine zj_if_eq 284 351 X dL_isGameSo_281 (by decide) rfl (fun h9 => absurd h9 (by decide)) (fun _ => ?_)
  refine zj_iload 286 X 7 dL_isGameSo_284 rfl rfl ?_
  refine zj_iload 288 X 6 dL_isGameSo_286 rfl rfl ?_
  refine zj_iconst 289 X (v := 4) dL_isGameSo_288 (by decide) rfl ?_
  refine zj_icmp_ne 292 296 X dL_isGameSo_289 (by decide) rfl (fun _ => ?_) (fun h9 => absurd h9 (by decide))
  refine zj_bipush 298 X (v := 11) dL_isGameSo_296 (by decide) rfl ?_
  refine zj_icmp_gt 301 351 X dL_isGameSo_298 (by decide) rfl (fun h9 => absurd h9 (by decide)) (fun _ => ?_)
  refine zj_iload 303 X 7 dL_isGameSo_301 rfl rfl ?_
  refine zj_iload 305 X 6 dL_isGameSo_303 rfl rfl ?_
  refine zj_iconst 306 X (v := 4) dL_isGameSo_305 (by decide) rfl ?_
  refine zj_icmp_ne 309 314 X dL_isGameSo_306 (by decide) rfl (fun _ => ?_) (fun h9 => absurd h9 (by decide))
  refine zj_bipush 316 X (v := (-11)) dL_isGameSo_314 (by decide) rfl ?_
  refine zj_icmp_lt 319 351 X dL_isGameSo_316 (by decide) rfl (fun h9 => absurd h9 (by decide)) (fun _ => ?_)
  refine zj_iload 321 X 7 dL_isGameSo_319 rfl rfl ?_
  refine zj_if_le 324 328 X dL_isGameSo_321 (by decide) rfl (fun h9 => absurd h9 (by decide)) (fun _ => ?_)
  refine zj_iconst 325 X (v := 1) dL_isGameSo_324 (by decide) rfl ?_
  refine zj_goto 329 X dL_isGameSo_325 (by decide) ?_
  refine zj_aload_n 330 X 0 dL_isGameSo_329 rfl rfl ?_
  refine zj_iload 332 X 5 dL_isGameSo_330 rfl rfl ?_
  refine zj_iconst 333 X (v := 4) dL_isGameSo_332 (by decide) rfl ?_
  refine zc_iq 336 (w := 1) 25 150 (zr_Vx (As := [.int 1, .int 4]) (rest := [.int 1]) X (zc_X4_matadors (l := l) (D := D) (C := C) (a := a) (u := u) (p0 := 1) (p1 := 4) (hfl := hfl)) zw_L_112 zn_X4_matadors (zcR_of rfl) zO_S0 FA.1 hA rfl (Nat.le_of_ble_eq_true rfl) dL_isGameSo_333) (zq_matadors_1_4 h) FA hA rfl rfl rfl ?_
  refine zj_if_le 339 343 X dL_isGameSo_336 (by decide) rfl (fun h9 => absurd h9 (by decide)) (fun _ => ?_)
  refine zj_iconst 340 X (v := 1) dL_isGameSo_339 (by decide) rfl ?_
  refine zj_goto 344 X dL_isGameSo_340 (by decide) ?_
  refine zj_icmp_ne 347 351 X dL_isGameSo_344 (by decide) rfl (fun h9 => absurd h9 (by decide)) (fun _ => ?_)
  refine zj_iconst 348 X (v := 1) dL_isGameSo_347 (by decide) rfl ?_
  refine zj_goto 352 X dL_isGameSo_348 (by decide) ?_
  refine zj_istore 354 X (lv1 := [(0, .ref (a 0)), (1, .int 0), (2, .int (-1)), (3, .int (-99999)), (4, .int 1), (5, .int 1), (6, .int 0), (7, .int 1)]) [1, 2, 3, 4, 0, 5, 6, 7] dL_isGameSo_352 (by decide) rfl rfl ?_
  refine zj_iinc 357 X (v := 1) (lv1 := [(0, .ref (a 0)), (1, .int 0), (2, .int (-1)), (3, .int (-99999)), (4, .int 1), (5, .int 1), (6, .int 1), (7, .int 1)]) 6 [1, 2, 3, 4, 5, 6, 0, 7] dL_isGameSo_354 rfl (by decide) (by decide) rfl rfl ?_
  refine zj_goto 258 X dL_isGameSo_357 (by decide) ?_
  refine zj_iload 260 X 6 dL_isGameSo_258 rfl rfl ?_
  refine zj_iconst 261 X (v := 5) dL_isGameSo_260 (by decide) rfl ?_
  refine zj_icmp_ge 264 360 X dL_isGameSo_261 (by decide) rfl (fun h9 => absurd h9 (by decide)) (fun _ => ?_)
  refine zj_iload 266 X 4 dL_isGameSo_264 rfl rfl ?_
  refine zj_if_eq 269 360 X dL_isGameSo_266 (by decide) rfl (fun h9 => absurd h9 (by decide)) (fun _ => ?_)
  refine zj_aload_n 270 X 0 dL_isGameSo_269 rfl rfl ?_
  refine zj_iload 272 X 5 dL_isGameSo_270 rfl rfl ?_
  refine zj_iload 274 X 6 dL_isGameSo_272 rfl rfl ?_
  refine zc_iq 277 (w := 1) 27 162 (zr_Vx (As := [.int 1, .int 1]) (rest := []) X (zc_X4_matadors (l := l) (D := D) (C := C) (a := a) (u := u) (p0 := 1) (p1 := 1) (hfl := hfl)) zw_L_112 zn_X4_matadors (zcR_of rfl) zO_S0 FA.1 hA rfl (Nat.le_of_ble_eq_true rfl) dL_isGameSo_274) (zq_matadors_1_1 h) FA hA rfl rfl rfl ?_
  refine zj_istore 279 X (lv1 := [(0, .ref (a 0)), (1, .int 0), (2, .int (-1)), (3, .int (-99999)), (4, .int 1), (5, .int 1), (6, .int 1), (7, .int 1)]) [1, 2, 3, 4, 5, 6, 7, 0] dL_isGameSo_277 (by decide) rfl rfl ?_
  refine zj_iload 281 X 7 dL_isGameSo_279 rfl rfl ?_
  refine zj_if_eq 284 351 X dL_isGameSo_281 (by decide) rfl (fun h9 => absurd h9 (by decide)) (fun _ => ?_)
  refine zj_iload 286 X 7 dL_isGameSo_284 rfl rfl ?_
  refine zj_iload 288 X 6 dL_isGameSo_286 rfl rfl ?_
  refine zj_iconst 289 X (v := 4) dL_isGameSo_288 (by decide) rfl ?_
  refine zj_icmp_ne 292 296 X dL_isGameSo_289 (by decide) rfl (fun _ => ?_) (fun h9 => absurd h9 (by decide))
  refine zj_bipush 298 X (v := 11) dL_isGameSo_296 (by decide) rfl ?_
  refine zj_icmp_gt 301 351 X dL_isGameSo_298 (by decide) rfl (fun h9 => absurd h9 (by decide)) (fun _ => ?_)
  refine zj_iload 303 X 7 dL_isGameSo_301 rfl rfl ?_
  refine zj_iload 305 X 6 dL_isGameSo_303 rfl rfl ?_
  refine zj_iconst 306 X (v := 4) dL_isGameSo_305 (by decide) rfl ?_
  refine zj_icmp_ne 309 314 X dL_isGameSo_306 (by decide) rfl (fun _ => ?_) (fun h9 => absurd h9 (by decide))
  refine zj_bipush 316 X (v := (-11)) dL_isGameSo_314 (by decide) rfl ?_
  refine zj_icmp_lt 319 351 X dL_isGameSo_316 (by decide) rfl (fun h9 => absurd h9 (by decide)) (fun _ => ?_)
  refine zj_iload 321 X 7 dL_isGameSo_319 rfl rfl ?_
  refine zj_if_le 324 328 X dL_isGameSo_321 (by decide) rfl (fun h9 => absurd h9 (by decide)) (fun _ => ?_)
  refine zj_iconst 325 X (v := 1) dL_isGameSo_324 (by decide) rfl ?_
  refine zj_goto 329 X dL_isGameSo_325 (by decide) ?_
  refine zj_aload_n 330 X 0 dL_isGameSo_329 rfl rfl ?_
  refine zj_iload 332 X 5 dL_isGameSo_330 rfl rfl ?_
  refine zj_iconst 333 X (v := 4) dL_isGameSo_332 (by decide) rfl ?_
  refine zc_iq 336 (w := 1) 29 174 (zr_Vx (As := [.int 1, .int 4]) (rest := [.int 1]) X (zc_X4_matadors (l := l) (D := D) (C := C) (a := a) (u := u) (p0 := 1) (p1 := 4) (hfl := hfl)) zw_L_112 zn_X4_matadors (zcR_of rfl) zO_S0 FA.1 hA rfl (Nat.le_of_ble_eq_true rfl) dL_isGameSo_333) (zq_matadors_1_4 h) FA hA rfl rfl rfl ?_
  refine zj_if_le 339 343 X dL_isGameSo_336 (by decide) rfl (fun h9 => absurd h9 (by decide)) (fun _ => ?_)
  refine zj_iconst 340 X (v := 1) dL_isGameSo_339 (by decide) rfl ?_
  refine zj_goto 344 X dL_isGameSo_340 (by decide) ?_
  refine zj_icmp_ne 347 351 X dL_isGameSo_344 (by decide) rfl (fun h9 => absurd h9 (by decide)) (fun _ => ?_)
  refine zj_iconst 348 X (v := 1) dL_isGameSo_347 (by decide) rfl ?_
  refine zj_goto 352 X dL_isGameSo_348 (by decide) ?_
  refine zj_istore 354 X (lv1 := [(0, .ref (a 0)), (1, .int 0), (2, .int (-1)), (3, .int (-99999)), (4, .int 1), (5, .int 1), (6, .int 1), (7, .int 1)]) [1, 2, 3, 4, 0, 5, 6, 7] dL_isGameSo_352 (by decide) rfl rfl ?_
  refine zj_iinc 357 X (v := 2) (lv1 := [(0, .ref (a 0)), (1, .int 0), (2, .int (-1)), (3, .int (-99999)), (4, .int 1), (5, .int 1), (6, .int 2), (7, .int 1)]) 6 [1, 2, 3, 4, 5, 6, 0, 7] dL_isGameSo_354 rfl (by decide) (by decide) rfl rfl ?_
  refine zj_goto 258 X dL_isGameSo_357 (by decide) ?_
  refine zj_iload 260 X 6 dL_isGameSo_258 rfl rfl ?_
  refine zj_iconst 261 X (v := 5) dL_isGameSo_260 (by decide) rfl ?_
  refine zj_icmp_ge 264 360 X dL_isGameSo_261 (by decide) rfl (fun h9 => absurd h9 (by decide)) (fun _ => ?_)
  refine zj_iload 266 X 4 dL_isGameSo_264 rfl rfl ?_
  refine zj_if_eq 269 360 X dL_isGameSo_266 (by decide) rfl (fun h9 => absurd h9 (by decide)) (fun _ => ?_)
  refine zj_aload_n 270 X 0 dL_isGameSo_269 rfl rfl ?_
  refine zj_iload 272 X 5 dL_isGameSo_270 rfl rfl ?_
  refine zj_iload 274 X 6 dL_isGameSo_272 rfl rfl ?_
  refine zc_iq 277 (w := 1) 31 186 (zr_Vx (As := [.int 1, .int 2]) (rest := []) X (zc_X4_matadors (l := l) (D := D) (C := C) (a := a) (u := u) (p0 := 1) (p1 := 2) (hfl := hfl)) zw_L_112 zn_X4_matadors (zcR_of rfl) zO_S0 FA.1 hA rfl (Nat.le_of_ble_eq_true rfl) dL_isGameSo_274) (zq_matadors_1_2 h) FA hA rfl rfl rfl ?_
  refine zj_istore 279 X (lv1 := [(0, .ref (a 0)), (1, .int 0), (2, .int (-1)), (3, .int (-99999)), (4, .int 1), (5, .int 1), (6, .int 2), (7, .int 1)]) [1, 2, 3, 4, 5, 6, 7, 0] dL_isGameSo_277 (by decide) rfl rfl ?_
  refine zj_iload 281 X 7 dL_isGameSo_279 rfl rfl ?_
  refine zj_if_eq 284 351 X dL_isGameSo_281 (by decide) rfl (fun h9 => absurd h9 (by decide)) (fun _ => ?_)
  refine zj_iload 286 X 7 dL_isGameSo_284 rfl rfl ?_
  refine zj_iload 288 X 6 dL_isGameSo_286 rfl rfl ?_
  refine zj_iconst 289 X (v := 4) dL_isGameSo_288 (by decide) rfl ?_
  refine zj_icmp_ne 292 296 X dL_isGameSo_289 (by decide) rfl (fun _ => ?_) (fun h9 => absurd h9 (by decide))
  refine zj_bipush 298 X (v := 11) dL_isGameSo_296 (by decide) rfl ?_
  refine zj_icmp_gt 301 351 X dL_isGameSo_298 (by decide) rfl (fun h9 => absurd h9 (by decide)) (fun _ => ?_)
  refine zj_iload 303 X 7 dL_isGameSo_301 rfl rfl ?_
  refine zj_iload 305 X 6 dL_isGameSo_303 rfl rfl ?_
  refine zj_iconst 306 X (v := 4) dL_isGameSo_305 (by decide) rfl ?_
  refine zj_icmp_ne 309 314 X dL_isGameSo_306 (by decide) rfl (fun _ => ?_) (fun h9 => absurd h9 (by decide))
  refine zj_bipush 316 X (v := (-11)) dL_isGameSo_314 (by decide) rfl ?_
  refine zj_icmp_lt 319 351 X dL_isGameSo_316 (by decide) rfl (fun h9 => absurd h9 (by decide)) (fun _ => ?_)
  refine zj_iload 321 X 7 dL_isGameSo_319 rfl rfl ?_
  refine zj_if_le 324 328 X dL_isGameSo_321 (by decide) rfl (fun h9 => absurd h9 (by decide)) (fun _ => ?_)
  refine zj_iconst 325 X (v := 1) dL_isGameSo_324 (by decide) rfl ?_
  refine zj_goto 329 X dL_isGameSo_325 (by decide) ?_
  refine zj_aload_n 330 X 0 dL_isGameSo_329 rfl rfl ?_
  refine zj_iload 332 X 5 dL_isGameSo_330 rfl rfl ?_
  refine zj_iconst 333 X (v := 4) dL_isGameSo_332 (by decide) rfl ?_
  refine zc_iq 336 (w := 1) 33 198 (zr_Vx (As := [.int 1, .int 4]) (rest := [.int 1]) X (zc_X4_matadors (l := l) (D := D) (C := C) (a := a) (u := u) (p0 := 1) (p1 := 4) (hfl := hfl)) zw_L_112 zn_X4_matadors (zcR_of rfl) zO_S0 FA.1 hA rfl (Nat.le_of_ble_eq_true rfl) dL_isGameSo_333) (zq_matadors_1_4 h) FA hA rfl rfl rfl ?_
  refine zj_if_le 339 343 X dL_isGameSo_336 (by decide) rfl (fun h9 => absurd h9 (by decide)) (fun _ => ?_)
  refine zj_iconst 340 X (v := 1) dL_isGameSo_339 (by decide) rfl ?_
  refine zj_goto 344 X dL_isGameSo_340 (by decide) ?_
  refine zj_icmp_ne 347 351 X dL_isGameSo_344 (by decide) rfl (fun h9 => absurd h9 (by decide)) (fun _ => ?_)
  refine zj_iconst 348 X (v := 1) dL_isGameSo_347 (by decide) rfl ?_
  refine zj_goto 352 X dL_isGameSo_348 (by decide) ?_
  refine zj_istore 354 X (lv1 := [(0, .ref (a 0)), (1, .int 0), (2, .int (-1)), (3, .int (-99999)), (4, .int 1), (5, .int 1), (6, .int 2), (7, .int 1)]) [1, 2, 3, 4, 0, 5, 6, 7] dL_isGameSo_352 (by decide) rfl rfl ?_
  refine zj_iinc 357 X (v := 3) (lv1 := [(0, .ref (a 0)), (1, .int 0), (2, .int (-1)), (3, .int (-99999)), (4, .int 1), (5, .int 1), (6, .int 3), (7, .int 1)]) 6 [1, 2, 3, 4, 5, 6, 0, 7] dL_isGameSo_354 rfl (by decide) (by decide) rfl rfl ?_
  refine zj_goto 258 X dL_isGameSo_357 (by decide) ?_
  refine zj_iload 260 X 6 dL_isGameSo_258 rfl rfl ?_
  refine zj_iconst 261 X (v := 5) dL_isGameSo_260 (by decide) rfl ?_
  refine zj_icmp_ge 264 360 X dL_isGameSo_261 (by decide) rfl (fun h9 => absurd h9 (by decide)) (fun _ => ?_)
  refine zj_iload 266 X 4 dL_isGameSo_264 rfl rfl ?_
  refine zj_if_eq 269 360 X dL_isGameSo_266 (by decide) rfl (fun h9 => absurd h9 (by decide)) (fun _ => ?_)
  refine zj_aload_n 270 X 0 dL_isGameSo_269 rfl rfl ?_
  refine zj_iload 272 X 5 dL_isGameSo_270 rfl rfl ?_
  refine zj_iload 274 X 6 dL_isGameSo_272 rfl rfl ?_
  refine zc_iq 277 (w := 1) 35 210 (zr_Vx (As := [.int 1, .int 3]) (rest := []) X (zc_X4_matadors (l := l) (D := D) (C := C) (a := a) (u := u) (p0 := 1) (p1 := 3) (hfl := hfl)) zw_L_112 zn_X4_matadors (zcR_of rfl) zO_S0 FA.1 hA rfl (Nat.le_of_ble_eq_true rfl) dL_isGameSo_274) (zq_matadors_1_3 h) FA hA rfl rfl rfl ?_
  refine zj_istore 279 X (lv1 := [(0, .ref (a 0)), (1, .int 0), (2, .int (-1)), (3, .int (-99999)), (4, .int 1), (5, .int 1), (6, .int 3), (7, .int 1)]) [1, 2, 3, 4, 5, 6, 7, 0] dL_isGameSo_277 (by decide) rfl rfl ?_
  refine zj_iload 281 X 7 dL_isGameSo_279 rfl rfl ?_
  refine zj_if_eq 284 351 X dL_isGameSo_281 (by decide) rfl (fun h9 => absurd h9 (by decide)) (fun _ => ?_)
  refine zj_iload 286 X 7 dL_isGameSo_284 rfl rfl ?_
  refine zj_iload 288 X 6 dL_isGameSo_286 rfl rfl ?_
  refine zj_iconst 289 X (v := 4) dL_isGameSo_288 (by decide) rfl ?_
  refine zj_icmp_ne 292 296 X dL_isGameSo_289 (by decide) rfl (fun _ => ?_) (fun h9 => absurd h9 (by decide))
  refine zj_bipush 298 X (v := 11) dL_isGameSo_296 (by decide) rfl ?_
  refine zj_icmp_gt 301 351 X dL_isGameSo_298 (by decide) rfl (fun h9 => absurd h9 (by decide)) (fun _ => ?_)
  refine zj_iload 303 X 7 dL_isGameSo_301 rfl rfl ?_
  refine zj_iload 305 X 6 dL_isGameSo_303 rfl rfl ?_
  refine zj_iconst 306 X (v := 4) dL_isGameSo_305 (by decide) rfl ?_
  refine zj_icmp_ne 309 314 X dL_isGameSo_306 (by decide) rfl (fun _ => ?_) (fun h9 => absurd h9 (by decide))
  refine zj_bipush 316 X (v := (-11)) dL_isGameSo_314 (by decide) rfl ?_
  refine zj_icmp_lt 319 351 X dL_isGameSo_316 (by decide) rfl (fun h9 => absurd h9 (by decide)) (fun _ => ?_)
  refine zj_iload 321 X 7 dL_isGameSo_319 rfl rfl ?_
  refine zj_if_le 324 328 X dL_isGameSo_321 (by decide) rfl (fun h9 => absurd h9 (by decide)) (fun _ => ?_)
  refine zj_iconst 325 X (v := 1) dL_isGameSo_324 (by decide) rfl ?_
  refine zj_goto 329 X dL_isGameSo_325 (by decide) ?_
  refine zj_aload_n 330 X 0 dL_isGameSo_329 rfl rfl ?_
  refine zj_iload 332 X 5 dL_isGameSo_330 rfl rfl ?_
  refine zj_iconst 333 X (v := 4) dL_isGameSo_332 (by decide) rfl ?_
  refine zc_iq 336 (w := 1) 37 222 (zr_Vx (As := [.int 1, .int 4]) (rest := [.int 1]) X (zc_X4_matadors (l := l) (D := D) (C := C) (a := a) (u := u) (p0 := 1) (p1 := 4) (hfl := hfl)) zw_L_112 zn_X4_matadors (zcR_of rfl) zO_S0 FA.1 hA rfl (Nat.le_of_ble_eq_true rfl) dL_isGameSo_333) (zq_matadors_1_4 h) FA hA rfl rfl rfl ?_
  refine zj_if_le 339 343 X dL_isGameSo_336 (by decide) rfl (fun h9 => absurd h9 (by decide)) (fun _ => ?_)
  refine zj_iconst 340 X (v := 1) dL_isGameSo_339 (by decide) rfl ?_
  refine zj_goto 344 X dL_isGameSo_340 (by decide) ?_
  refine zj_icmp_ne 347 351 X dL_isGameSo_344 (by decide) rfl (fun h9 => absurd h9 (by decide)) (fun _ => ?_)
  refine zj_iconst 348 X (v := 1) dL_isGameSo_347 (by decide) rfl ?_
  refine zj_goto 352 X dL_isGameSo_348 (by decide) ?_
  refine zj_istore 354 X (lv1 := [(0, .ref (a 0)), (1, .int 0), (2, .int (-1)), (3, .int (-99999)), (4, .int 1), (5, .int 1), (6, .int 3), (7, .int 1)]) [1, 2, 3, 4, 0, 5, 6, 7] dL_isGameSo_352 (by decide) rfl rfl ?_
  refine zj_iinc 357 X (v := 4) (lv1 := [(0, .ref (a 0)), (1, .int 0), (2, .int (-1)), (3, .int (-99999)), (4, .int 1), (5, .int 1), (6, .int 4), (7, .int 1)]) 6 [1, 2, 3, 4, 5, 6, 0, 7] dL_isGameSo_354 rfl (by decide) (by decide) rfl rfl ?_
  refine zj_goto 258 X dL_isGameSo_357 (by decide) ?_
  refine zj_iload 260 X 6 dL_isGameSo_258 rfl rfl ?_
  refine zj_iconst 261 X (v := 5) dL_isGameSo_260 (by decide) rfl ?_
  refine zj_icmp_ge 264 360 X dL_isGameSo_261 (by decide) rfl (fun h9 => absurd h9 (by decide)) (fun _ => ?_)
  refine zj_iload 266 X 4 dL_isGameSo_264 rfl rfl ?_
  refine zj_if_eq 269 360 X dL_isGameSo_266 (by decide) rfl (fun h9 => absurd h9 (by decide)) (fun _ => ?_)
  refine zj_aload_n 270 X 0 dL_isGameSo_269 rfl rfl ?_
  refine zj_iload 272 X 5 dL_isGameSo_270 rfl rfl ?_
  refine zj_iload 274 X 6 dL_isGameSo_272 rfl rfl ?_
  refine zc_iq 277 (w := 1) 39 234 (zr_Vx (As := [.int 1, .int 4]) (rest := []) X (zc_X4_matadors (l := l) (D := D) (C := C) (a := a) (u := u) (p0 := 1) (p1 := 4) (hfl := hfl)) zw_L_112 zn_X4_matadors (zcR_of rfl) zO_S0 FA.1 hA rfl (Nat.le_of_ble_eq_true rfl) dL_isGameSo_274) (zq_matadors_1_4 h) FA hA rfl rfl rfl ?_
  refine zj_istore 279 X (lv1 := [(0, .ref (a 0)), (1, .int 0), (2, .int (-1)), (3, .int (-99999)), (4, .int 1), (5, .int 1), (6, .int 4), (7, .int 1)]) [1, 2, 3, 4, 5, 6, 7, 0] dL_isGameSo_277 (by decide) rfl rfl ?_
  refine zj_iload 281 X 7 dL_isGameSo_279 rfl rfl ?_
  refine zj_if_eq 284 351 X dL_isGameSo_281 (by decide) rfl (fun h9 => absurd h9 (by decide)) (fun _ => ?_)
  refine zj_iload 286 X 7 dL_isGameSo_284 rfl rfl ?_
  refine zj_iload 288 X 6 dL_isGameSo_286 rfl rfl ?_
  refine zj_iconst 289 X (v := 4) dL_isGameSo_288 (by decide) rfl ?_
  refine zj_icmp_ne 292 296 X dL_isGameSo_289 (by decide) rfl (fun h9 => absurd h9 (by decide)) (fun _ => ?_)
  refine zj_iconst 293 X (v := 4) dL_isGameSo_292 (by decide) rfl ?_
  refine zj_goto 298 X dL_isGameSo_293 (by decide) ?_
  refine zj_icmp_gt 301 351 X dL_isGameSo_298 (by decide) rfl (fun h9 => absurd h9 (by decide)) (fun _ => ?_)
  refine zj_iload 303 X 7 dL_isGameSo_301 rfl rfl ?_
  refine zj_iload 305 X 6 dL_isGameSo_303 rfl rfl ?_
  refine zj_iconst 306 X (v := 4) dL_isGameSo_305 (by decide) rfl ?_
  refine zj_icmp_ne 309 314 X dL_isGameSo_306 (by decide) rfl (fun h9 => absurd h9 (by decide)) (fun _ => ?_)
  refine zj_bipush 311 X (v := (-4)) dL_isGameSo_309 (by decide) rfl ?_
  refine zj_goto 316 X dL_isGameSo_311 (by decide) ?_
  refine zj_icmp_lt 319 351 X dL_isGameSo_316 (by decide) rfl (fun h9 => absurd h9 (by decide)) (fun _ => ?_)
  refine zj_iload 321 X 7 dL_isGameSo_319 rfl rfl ?_
  refine zj_if_le 324 328 X dL_isGameSo_321 (by decide) rfl (fun h9 => absurd h9 (by decide)) (fun _ => ?_)
  refine zj_iconst 325 X (v := 1) dL_isGameSo_324 (by decide) rfl ?_
  refine zj_goto 329 X dL_isGameSo_325 (by decide) ?_
  refine zj_aload_n 330 X 0 dL_isGameSo_329 rfl rfl ?_
  refine zj_iload 332 X 5 dL_isGameSo_330 rfl rfl ?_
  refine zj_iconst 333 X (v := 4) dL_isGameSo_332 (by decide) rfl ?_
  refine zc_iq 336 (w := 1) 41 246 (zr_Vx (As := [.int 1, .int 4]) (rest := [.int 1]) X (zc_X4_matadors (l := l) (D := D) (C := C) (a := a) (u := u) (p0 := 1) (p1 := 4) (hfl := hfl)) zw_L_112 zn_X4_matadors (zcR_of rfl) zO_S0 FA.1 hA rfl (Nat.le_of_ble_eq_true rfl) dL_isGameSo_333) (zq_matadors_1_4 h) FA hA rfl rfl rfl ?_
  refine zj_if_le 339 343 X dL_isGameSo_336 (by decide) rfl (fun h9 => absurd h9 (by decide)) (fun _ => ?_)
  refine zj_iconst 340 X (v := 1) dL_isGameSo_339 (by decide) rfl ?_
  refine zj_goto 344 X dL_isGameSo_340 (by decide) ?_
  refine zj_icmp_ne 347 351 X dL_isGameSo_344 (by decide) rfl (fun h9 => absurd h9 (by decide)) (fun _ => ?_)
  refine zj_iconst 348 X (v := 1) dL_isGameSo_347 (by decide) rfl ?_
  refine zj_goto 352 X dL_isGameSo_348 (by decide) ?_
  refine zj_istore 354 X (lv1 := [(0, .ref (a 0)), (1, .int 0), (2, .int (-1)), (3, .int (-99999)), (4, .int 1), (5, .int 1), (6, .int 4), (7, .int 1)]) [1, 2, 3, 4, 0, 5, 6, 7] dL_isGameSo_352 (by decide) rfl rfl ?_
  refine zj_iinc 357 X (v := 5) (lv1 := [(0, .ref (a 0)), (1, .int 0), (2, .int (-1)), (3, .int (-99999)), (4, .int 1), (5, .int 1), (6, .int 5), (7, .int 1)]) 6 [1, 2, 3, 4, 5, 6, 0, 7] dL_isGameSo_354 rfl (by decide) (by decide) rfl rfl ?_
  refine zj_goto 258 X dL_isGameSo_357 (by decide) ?_
  refine zj_iload 260 X 6 dL_isGameSo_258 rfl rfl ?_
  refine zj_iconst 261 X (v := 5) dL_isGameSo_260 (by decide) rfl ?_
  refine zj_icmp_ge 264 360 X dL_isGameSo_261 (by decide) rfl (fun _ => ?_) (fun h9 => absurd h9 (by decide))
  refine zj_iinc 363 X (v := 2) (lv1 := [(0, .ref (a 0)), (1, .int 0), (2, .int (-1)), (3, .int (-99999)), (4, .int 1), (5, .int 2), (6, .int 5), (7, .int 1)]) 5 [1, 2, 3, 4, 5, 0, 6, 7] dL_isGameSo_360 rfl (by decide) (by decide) rfl rfl ?_
  refine zj_goto 244 X dL_isGameSo_363 (by decide) ?_
  refine zj_iload 246 X 5 dL_isGameSo_244 rfl rfl ?_
  refine zj_iconst 247 X (v := 3) dL_isGameSo_246 (by decide) rfl ?_
  refine zj_icmp_ge 250 366 X dL_isGameSo_247 (by decide) rfl (fun h9 => absurd h9 (by decide)) (fun _ => ?_)
  refine zj_iload 252 X 4 dL_isGameSo_250 rfl rfl ?_
  refine zj_if_eq 255 366 X dL_isGameSo_252 (by decide) rfl (fun h9 => absurd h9 (by decide)) (fun _ => ?_)
  refine zj_iconst 256 X (v := 0) dL_isGameSo_255 (by decide) rfl ?_
  refine zj_istore 258 X (lv1 := [(0, .ref (a 0)), (1, .int 0), (2, .int (-1)), (3, .int (-99999)), (4, .int 1), (5, .int 2), (6, .int 0), (7, .int 1)]) [1, 2, 3, 4, 5, 6, 0, 7] dL_isGameSo_256 (by decide) rfl rfl ?_
  refine zj_iload 260 X 6 dL_isGameSo_258 rfl rfl ?_
  refine zj_iconst 261 X (v := 5) dL_isGameSo_260 (by decide) rfl ?_
  refine zj_icmp_ge 264 360 X dL_isGameSo_261 (by decide) rfl (fun h9 => absurd h9 (by decide)) (fun _ => ?_)
  refine zj_iload 266 X 4 dL_isGameSo_264 rfl rfl ?_
  refine zj_if_eq 269 360 X dL_isGameSo_266 (by decide) rfl (fun h9 => absurd h9 (by decide)) (fun _ => ?_)
  refine zj_aload_n 270 X 0 dL_isGameSo_269 rfl rfl ?_
  refine zj_iload 272 X 5 dL_isGameSo_270 rfl rfl ?_
  refine zj_iload 274 X 6 dL_isGameSo_272 rfl rfl ?_
  refine zc_iq 277 (w := (-2)) 43 258 (zr_Vx (As := [.int 2, .int 0]) (rest := []) X (zc_X4_matadors (l := l) (D := D) (C := C) (a := a) (u := u) (p0 := 2) (p1 := 0) (hfl := hfl)) zw_L_112 zn_X4_matadors (zcR_of rfl) zO_S0 FA.1 hA rfl (Nat.le_of_ble_eq_true rfl) dL_isGameSo_274) (zq_matadors_2_0 h) FA hA rfl rfl rfl ?_
  refine zj_istore 279 X (lv1 := [(0, .ref (a 0)), (1, .int 0), (2, .int (-1)), (3, .int (-99999)), (4, .int 1), (5, .int 2), (6, .int 0), (7, .int (-2))]) [1, 2, 3, 4, 5, 6, 7, 0] dL_isGameSo_277 (by decide) rfl rfl ?_
  refine zj_iload 281 X 7 dL_isGameSo_279 rfl rfl ?_
  refine zj_if_eq 284 351 X dL_isGameSo_281 (by decide) rfl (fun h9 => absurd h9 (by decide)) (fun _ => ?_)
  refine zj_iload 286 X 7 dL_isGameSo_284 rfl rfl ?_
  refine zj_iload 288 X 6 dL_isGameSo_286 rfl rfl ?_
  refine zj_iconst 289 X (v := 4) dL_isGameSo_288 (by decide) rfl ?_
  refine zj_icmp_ne 292 296 X dL_isGameSo_289 (by decide) rfl (fun _ => ?_) (fun h9 => absurd h9 (by decide))
  refine zj_bipush 298 X (v := 11) dL_isGameSo_296 (by decide) rfl ?_
  refine zj_icmp_gt 301 351 X dL_isGameSo_298 (by decide) rfl (fun h9 => absurd h9 (by decide)) (fun _ => ?_)
  refine zj_iload 303 X 7 dL_isGameSo_301 rfl rfl ?_
  refine zj_iload 305 X 6 dL_isGameSo_303 rfl rfl ?_
  refine zj_iconst 306 X (v := 4) dL_isGameSo_305 (by decide) rfl ?_
  refine zj_icmp_ne 309 314 X dL_isGameSo_306 (by decide) rfl (fun _ => ?_) (fun h9 => absurd h9 (by decide))
  refine zj_bipush 316 X (v := (-11)) dL_isGameSo_314 (by decide) rfl ?_
  refine zj_icmp_lt 319 351 X dL_isGameSo_316 (by decide) rfl (fun h9 => absurd h9 (by decide)) (fun _ => ?_)
  refine zj_iload 321 X 7 dL_isGameSo_319 rfl rfl ?_
  refine zj_if_le 324 328 X dL_isGameSo_321 (by decide) rfl (fun _ => ?_) (fun h9 => absurd h9 (by decide))
  refine zj_iconst 329 X (v := 0) dL_isGameSo_328 (by decide) rfl ?_
  refine zj_aload_n 330 X 0 dL_isGameSo_329 rfl rfl ?_
  refine zj_iload 332 X 5 dL_isGameSo_330 rfl rfl ?_
  refine zj_iconst 333 X (v := 4) dL_isGameSo_332 (by decide) rfl ?_
  refine zc_iq 336 (w := (-2)) 45 270 (zr_Vx (As := [.int 2, .int 4]) (rest := [.int 0]) X (zc_X4_matadors (l := l) (D := D) (C := C) (a := a) (u := u) (p0 := 2) (p1 := 4) (hfl := hfl)) zw_L_112 zn_X4_matadors (zcR_of rfl) zO_S0 FA.1 hA rfl (Nat.le_of_ble_eq_true rfl) dL_isGameSo_333) (zq_matadors_2_4 h) FA hA rfl rfl rfl ?_
  refine zj_if_le 339 343 X dL_isGameSo_336 (by decide) rfl (fun _ => ?_) (fun h9 => absurd h9 (by decide))
  refine zj_iconst 344 X (v := 0) dL_isGameSo_343 (by decide) rfl ?_
  refine zj_icmp_ne 347 351 X dL_isGameSo_344 (by decide) rfl (fun h9 => absurd h9 (by decide)) (fun _ => ?_)
  refine zj_iconst 348 X (v := 1) dL_isGameSo_347 (by decide) rfl ?_
  refine zj_goto 352 X dL_isGameSo_348 (by decide) ?_
  refine zj_istore 354 X (lv1 := [(0, .ref (a 0)), (1, .int 0), (2, .int (-1)), (3, .int (-99999)), (4, .int 1), (5, .int 2), (6, .int 0), (7, .int (-2))]) [1, 2, 3, 4, 0, 5, 6, 7] dL_isGameSo_352 (by decide) rfl rfl ?_
  refine zj_iinc 357 X (v := 1) (lv1 := [(0, .ref (a 0)), (1, .int 0), (2, .int (-1)), (3, .int (-99999)), (4, .int 1), (5, .int 2), (6, .int 1), (7, .int (-2))]) 6 [1, 2, 3, 4, 5, 6, 0, 7] dL_isGameSo_354 rfl (by decide) (by decide) rfl rfl ?_
  refine zj_goto 258 X dL_isGameSo_357 (by decide) ?_
  refine zj_iload 260 X 6 dL_isGameSo_258 rfl rfl ?_
  refine zj_iconst 261 X (v := 5) dL_isGameSo_260 (by decide) rfl ?_
  refine zj_icmp_ge 264 360 X dL_isGameSo_261 (by decide) rfl (fun h9 => absurd h9 (by decide)) (fun _ => ?_)
  refine zj_iload 266 X 4 dL_isGameSo_264 rfl rfl ?_
  refine zj_if_eq 269 360 X dL_isGameSo_266 (by decide) rfl (fun h9 => absurd h9 (by decide)) (fun _ => ?_)
  refine zj_aload_n 270 X 0 dL_isGameSo_269 rfl rfl ?_
  refine zj_iload 272 X 5 dL_isGameSo_270 rfl rfl ?_
  refine zj_iload 274 X 6 dL_isGameSo_272 rfl rfl ?_
  refine zc_iq 277 (w := (-2)) 47 282 (zr_Vx (As := [.int 2, .int 1]) (rest := []) X (zc_X4_matadors (l := l) (D := D) (C := C) (a := a) (u := u) (p0 := 2) (p1 := 1) (hfl := hfl)) zw_L_112 zn_X4_matadors (zcR_of rfl) zO_S0 FA.1 hA rfl (Nat.le_of_ble_eq_true rfl) dL_isGameSo_274) (zq_matadors_2_1 h) FA hA rfl rfl rfl ?_
  refine zj_istore 279 X (lv1 := [(0, .ref (a 0)), (1, .int 0), (2, .int (-1)), (3, .int (-99999)), (4, .int 1), (5, .int 2), (6, .int 1), (7, .int (-2))]) [1, 2, 3, 4, 5, 6, 7, 0] dL_isGameSo_277 (by decide) rfl rfl ?_
  refine zj_iload 281 X 7 dL_isGameSo_279 rfl rfl ?_
  refine zj_if_eq 284 351 X dL_isGameSo_281 (by decide) rfl (fun h9 => absurd h9 (by decide)) (fun _ => ?_)
  refine zj_iload 286 X 7 dL_isGameSo_284 rfl rfl ?_
  refine zj_iload 288 X 6 dL_isGameSo_286 rfl rfl ?_
  refine zj_iconst 289 X (v := 4) dL_isGameSo_288 (by decide) rfl ?_
  refine zj_icmp_ne 292 296 X dL_isGameSo_289 (by decide) rfl (fun _ => ?_) (fun h9 => absurd h9 (by decide))
  refine zj_bipush 298 X (v := 11) dL_isGameSo_296 (by decide) rfl ?_
  refine zj_icmp_gt 301 351 X dL_isGameSo_298 (by decide) rfl (fun h9 => absurd h9 (by decide)) (fun _ => ?_)
  refine zj_iload 303 X 7 dL_isGameSo_301 rfl rfl ?_
  refine zj_iload 305 X 6 dL_isGameSo_303 rfl rfl ?_
  refine zj_iconst 306 X (v := 4) dL_isGameSo_305 (by decide) rfl ?_
  refine zj_icmp_ne 309 314 X dL_isGameSo_306 (by decide) rfl (fun _ => ?_) (fun h9 => absurd h9 (by decide))
  refine zj_bipush 316 X (v := (-11)) dL_isGameSo_314 (by decide) rfl ?_
  refine zj_icmp_lt 319 351 X dL_isGameSo_316 (by decide) rfl (fun h9 => absurd h9 (by decide)) (fun _ => ?_)
  refine zj_iload 321 X 7 dL_isGameSo_319 rfl rfl ?_
  refine zj_if_le 324 328 X dL_isGameSo_321 (by decide) rfl (fun _ => ?_) (fun h9 => absurd h9 (by decide))
  refine zj_iconst 329 X (v := 0) dL_isGameSo_328 (by decide) rfl ?_
  refine zj_aload_n 330 X 0 dL_isGameSo_329 rfl rfl ?_
  refine zj_iload 332 X 5 dL_isGameSo_330 rfl rfl ?_
  refine zj_iconst 333 X (v := 4) dL_isGameSo_332 (by decide) rfl ?_
  refine zc_iq 336 (w := (-2)) 49 294 (zr_Vx (As := [.int 2, .int 4]) (rest := [.int 0]) X (zc_X4_matadors (l := l) (D := D) (C := C) (a := a) (u := u) (p0 := 2) (p1 := 4) (hfl := hfl)) zw_L_112 zn_X4_matadors (zcR_of rfl) zO_S0 FA.1 hA rfl (Nat.le_of_ble_eq_true rfl) dL_isGameSo_333) (zq_matadors_2_4 h) FA hA rfl rfl rfl ?_
  refine zj_if_le 339 343 X dL_isGameSo_336 (by decide) rfl (fun _ => ?_) (fun h9 => absurd h9 (by decide))
  refine zj_iconst 344 X (v := 0) dL_isGameSo_343 (by decide) rfl ?_
  refine zj_icmp_ne 347 351 X dL_isGameSo_344 (by decide) rfl (fun h9 => absurd h9 (by decide)) (fun _ => ?_)
  refine zj_iconst 348 X (v := 1) dL_isGameSo_347 (by decide) rfl ?_
  refine zj_goto 352 X dL_isGameSo_348 (by decide) ?_
  refine zj_istore 354 X (lv1 := [(0, .ref (a 0)), (1, .int 0), (2, .int (-1)), (3, .int (-99999)), (4, .int 1), (5, .int 2), (6, .int 1), (7, .int (-2))]) [1, 2, 3, 4, 0, 5, 6, 7] dL_isGameSo_352 (by decide) rfl rfl ?_
  refine zj_iinc 357 X (v := 2) (lv1 := [(0, .ref (a 0)), (1, .int 0), (2, .int (-1)), (3, .int (-99999)), (4, .int 1), (5, .int 2), (6, .int 2), (7, .int (-2))]) 6 [1, 2, 3, 4, 5, 6, 0, 7] dL_isGameSo_354 rfl (by decide) (by decide) rfl rfl ?_
  refine zj_goto 258 X dL_isGameSo_357 (by decide) ?_
  refine zj_iload 260 X 6 dL_isGameSo_258 rfl rfl ?_
  refine zj_iconst 261 X (v := 5) dL_isGameSo_260 (by decide) rfl ?_
  refine zj_icmp_ge 264 360 X dL_isGameSo_261 (by decide) rfl (fun h9 => absurd h9 (by decide)) (fun _ => ?_)
  refine zj_iload 266 X 4 dL_isGameSo_264 rfl rfl ?_
  refine zj_if_eq 269 360 X dL_isGameSo_266 (by decide) rfl (fun h9 => absurd h9 (by decide)) (fun _ => ?_)
  refine zj_aload_n 270 X 0 dL_isGameSo_269 rfl rfl ?_
  refine zj_iload 272 X 5 dL_isGameSo_270 rfl rfl ?_
  refine zj_iload 274 X 6 dL_isGameSo_272 rfl rfl ?_
  refine zc_iq 277 (w := (-2)) 51 306 (zr_Vx (As := [.int 2, .int 2]) (rest := []) X (zc_X4_matadors (l := l) (D := D) (C := C) (a := a) (u := u) (p0 := 2) (p1 := 2) (hfl := hfl)) zw_L_112 zn_X4_matadors (zcR_of rfl) zO_S0 FA.1 hA rfl (Nat.le_of_ble_eq_true rfl) dL_isGameSo_274) (zq_matadors_2_2 h) FA hA rfl rfl rfl ?_
  refine zj_istore 279 X (lv1 := [(0, .ref (a 0)), (1, .int 0), (2, .int (-1)), (3, .int (-99999)), (4, .int 1), (5, .int 2), (6, .int 2), (7, .int (-2))]) [1, 2, 3, 4, 5, 6, 7, 0] dL_isGameSo_277 (by decide) rfl rfl ?_
  refine zj_iload 281 X 7 dL_isGameSo_279 rfl rfl ?_
  refine zj_if_eq 284 351 X dL_isGameSo_281 (by decide) rfl (fun h9 => absurd h9 (by decide)) (fun _ => ?_)
  refine zj_iload 286 X 7 dL_isGameSo_284 rfl rfl ?_
  refine zj_iload 288 X 6 dL_isGameSo_286 rfl rfl ?_
  refine zj_iconst 289 X (v := 4) dL_isGameSo_288 (by decide) rfl ?_
  refine zj_icmp_ne 292 296 X dL_isGameSo_289 (by decide) rfl (fun _ => ?_) (fun h9 => absurd h9 (by decide))
  refine zj_bipush 298 X (v := 11) dL_isGameSo_296 (by decide) rfl ?_
  refine zj_icmp_gt 301 351 X dL_isGameSo_298 (by decide) rfl (fun h9 => absurd h9 (by decide)) (fun _ => ?_)
  refine zj_iload 303 X 7 dL_isGameSo_301 rfl rfl ?_
  refine zj_iload 305 X 6 dL_isGameSo_303 rfl rfl ?_
  refine zj_iconst 306 X (v := 4) dL_isGameSo_305 (by decide) rfl ?_
  refine zj_icmp_ne 309 314 X dL_isGameSo_306 (by decide) rfl (fun _ => ?_) (fun h9 => absurd h9 (by decide))
  refine zj_bipush 316 X (v := (-11)) dL_isGameSo_314 (by decide) rfl ?_
  refine zj_icmp_lt 319 351 X dL_isGameSo_316 (by decide) rfl (fun h9 => absurd h9 (by decide)) (fun _ => ?_)
  refine zj_iload 321 X 7 dL_isGameSo_319 rfl rfl ?_
  refine zj_if_le 324 328 X dL_isGameSo_321 (by decide) rfl (fun _ => ?_) (fun h9 => absurd h9 (by decide))
  refine zj_iconst 329 X (v := 0) dL_isGameSo_328 (by decide) rfl ?_
  refine zj_aload_n 330 X 0 dL_isGameSo_329 rfl rfl ?_
  refine zj_iload 332 X 5 dL_isGameSo_330 rfl rfl ?_
  refine zj_iconst 333 X (v := 4) dL_isGameSo_332 (by decide) rfl ?_
  refine zc_iq 336 (w := (-2)) 53 318 (zr_Vx (As := [.int 2, .int 4]) (rest := [.int 0]) X (zc_X4_matadors (l := l) (D := D) (C := C) (a := a) (u := u) (p0 := 2) (p1 := 4) (hfl := hfl)) zw_L_112 zn_X4_matadors (zcR_of rfl) zO_S0 FA.1 hA rfl (Nat.le_of_ble_eq_true rfl) dL_isGameSo_333) (zq_matadors_2_4 h) FA hA rfl rfl rfl ?_
  refine zj_if_le 339 343 X dL_isGameSo_336 (by decide) rfl (fun _ => ?_) (fun h9 => absurd h9 (by decide))
  refine zj_iconst 344 X (v := 0) dL_isGameSo_343 (by decide) rfl ?_
  refine zj_icmp_ne 347 351 X dL_isGameSo_344 (by decide) rfl (fun h9 => absurd h9 (by decide)) (fun _ => ?_)
  refine zj_iconst 348 X (v := 1) dL_isGameSo_347 (by decide) rfl ?_
  refine zj_goto 352 X dL_isGameSo_348 (by decide) ?_
  refine zj_istore 354 X (lv1 := [(0, .ref (a 0)), (1, .int 0), (2, .int (-1)), (3, .int (-99999)), (4, .int 1), (5, .int 2), (6, .int 2), (7, .int (-2))]) [1, 2, 3, 4, 0, 5, 6, 7] dL_isGameSo_352 (by decide) rfl rfl ?_
  refine zj_iinc 357 X (v := 3) (lv1 := [(0, .ref (a 0)), (1, .int 0), (2, .int (-1)), (3, .int (-99999)), (4, .int 1), (5, .int 2), (6, .int 3), (7, .int (-2))]) 6 [1, 2, 3, 4, 5, 6, 0, 7] dL_isGameSo_354 rfl (by decide) (by decide) rfl rfl ?_
  refine zj_goto 258 X dL_isGameSo_357 (by decide) ?_
  refine zj_iload 260 X 6 dL_isGameSo_258 rfl rfl ?_
  refine zj_iconst 261 X (v := 5) dL_isGameSo_260 (by decide) rfl ?_
  refine zj_icmp_ge 264 360 X dL_isGameSo_261 (by decide) rfl (fun h9 => absurd h9 (by decide)) (fun _ => ?_)
  refine zj_iload 266 X 4 dL_isGameSo_264 rfl rfl ?_
  refine zj_if_eq 269 360 X dL_isGameSo_266 (by decide) rfl (fun h9 => absurd h9 (by decide)) (fun _ => ?_)
  refine zj_aload_n 270 X 0 dL_isGameSo_269 rfl rfl ?_
  refine zj_iload 272 X 5 dL_isGameSo_270 rfl rfl ?_
  refine zj_iload 274 X 6 dL_isGameSo_272 rfl rfl ?_
  refine zc_iq 277 (w := (-2)) 55 330 (zr_Vx (As := [.int 2, .int 3]) (rest := []) X (zc_X4_matadors (l := l) (D := D) (C := C) (a := a) (u := u) (p0 := 2) (p1 := 3) (hfl := hfl)) zw_L_112 zn_X4_matadors (zcR_of rfl) zO_S0 FA.1 hA rfl (Nat.le_of_ble_eq_true rfl) dL_isGameSo_274) (zq_matadors_2_3 h) FA hA rfl rfl rfl ?_
  refine zj_istore 279 X (lv1 := [(0, .ref (a 0)), (1, .int 0), (2, .int (-1)), (3, .int (-99999)), (4, .int 1), (5, .int 2), (6, .int 3), (7, .int (-2))]) [1, 2, 3, 4, 5, 6, 7, 0] dL_isGameSo_277 (by decide) rfl rfl ?_
  refine zj_iload 281 X 7 dL_isGameSo_279 rfl rfl ?_
  refine zj_if_eq 284 351 X dL_isGameSo_281 (by decide) rfl (fun h9 => absurd h9 (by decide)) (fun _ => ?_)
  refine zj_iload 286 X 7 dL_isGameSo_284 rfl rfl ?_
  refine zj_iload 288 X 6 dL_isGameSo_286 rfl rfl ?_
  refine zj_iconst 289 X (v := 4) dL_isGameSo_288 (by decide) rfl ?_
  refine zj_icmp_ne 292 296 X dL_isGameSo_289 (by decide) rfl (fun _ => ?_) (fun h9 => absurd h9 (by decide))
  refine zj_bipush 298 X (v := 11) dL_isGameSo_296 (by decide) rfl ?_
  refine zj_icmp_gt 301 351 X dL_isGameSo_298 (by decide) rfl (fun h9 => absurd h9 (by decide)) (fun _ => ?_)
  refine zj_iload 303 X 7 dL_isGameSo_301 rfl rfl ?_
  refine zj_iload 305 X 6 dL_isGameSo_303 rfl rfl ?_
  refine zj_iconst 306 X (v := 4) dL_isGameSo_305 (by decide) rfl ?_
  refine zj_icmp_ne 309 314 X dL_isGameSo_306 (by decide) rfl (fun _ => ?_) (fun h9 => absurd h9 (by decide))
  refine zj_bipush 316 X (v := (-11)) dL_isGameSo_314 (by decide) rfl ?_
  refine zj_icmp_lt 319 351 X dL_isGameSo_316 (by decide) rfl (fun h9 => absurd h9 (by decide)) (fun _ => ?_)
  refine zj_iload 321 X 7 dL_isGameSo_319 rfl rfl ?_
  refine zj_if_le 324 328 X dL_isGameSo_321 (by decide) rfl (fun _ => ?_) (fun h9 => absurd h9 (by decide))
  refine zj_iconst 329 X (v := 0) dL_isGameSo_328 (by decide) rfl ?_
  refine zj_aload_n 330 X 0 dL_isGameSo_329 rfl rfl ?_
  refine zj_iload 332 X 5 dL_isGameSo_330 rfl rfl ?_
  refine zj_iconst 333 X (v := 4) dL_isGameSo_332 (by decide) rfl ?_
  refine zc_iq 336 (w := (-2)) 57 342 (zr_Vx (As := [.int 2, .int 4]) (rest := [.int 0]) X (zc_X4_matadors (l := l) (D := D) (C := C) (a := a) (u := u) (p0 := 2) (p1 := 4) (hfl := hfl)) zw_L_112 zn_X4_matadors (zcR_of rfl) zO_S0 FA.1 hA rfl (Nat.le_of_ble_eq_true rfl) dL_isGameSo_333) (zq_matadors_2_4 h) FA hA rfl rfl rfl ?_
  refine zj_if_le 339 343 X dL_isGameSo_336 (by decide) rfl (fun _ => ?_) (fun h9 => absurd h9 (by decide))
  refine zj_iconst 344 X (v := 0) dL_isGameSo_343 (by decide) rfl ?_
  refine zj_icmp_ne 347 351 X dL_isGameSo_344 (by decide) rfl (fun h9 => absurd h9 (by decide)) (fun _ => ?_)
  refine zj_iconst 348 X (v := 1) dL_isGameSo_347 (by decide) rfl ?_
  refine zj_goto 352 X dL_isGameSo_348 (by decide) ?_
  refine zj_istore 354 X (lv1 := [(0, .ref (a 0)), (1, .int 0), (2, .int (-1)), (3, .int (-99999)), (4, .int 1), (5, .int 2), (6, .int 3), (7, .int (-2))]) [1, 2, 3, 4, 0, 5, 6, 7] dL_isGameSo_352 (by decide) rfl rfl ?_
  refine zj_iinc 357 X (v := 4) (lv1 := [(0, .ref (a 0)), (1, .int 0), (2, .int (-1)), (3, .int (-99999)), (4, .int 1), (5, .int 2), (6, .int 4), (7, .int (-2))]) 6 [1, 2, 3, 4, 5, 6, 0, 7] dL_isGameSo_354 rfl (by decide) (by decide) rfl rfl ?_
  refine zj_goto 258 X dL_isGameSo_357 (by decide) ?_
  refine zj_iload 260 X 6 dL_isGameSo_258 rfl rfl ?_
  refine zj_iconst 261 X (v := 5) dL_isGameSo_260 (by decide) rfl ?_
  refine zj_icmp_ge 264 360 X dL_isGameSo_261 (by decide) rfl (fun h9 => absurd h9 (by decide)) (fun _ => ?_)
  refine zj_iload 266 X 4 dL_isGameSo_264 rfl rfl ?_
  refine zj_if_eq 269 360 X dL_isGameSo_266 (by decide) rfl (fun h9 => absurd h9 (by decide)) (fun _ => ?_)
  refine zj_aload_n 270 X 0 dL_isGameSo_269 rfl rfl ?_
  refine zj_iload 272 X 5 dL_isGameSo_270 rfl rfl ?_
  refine zj_iload 274 X 6 dL_isGameSo_272 rfl rfl ?_
  refine zc_iq 277 (w := (-2)) 59 354 (zr_Vx (As := [.int 2, .int 4]) (rest := []) X (zc_X4_matadors (l := l) (D := D) (C := C) (a := a) (u := u) (p0 := 2) (p1 := 4) (hfl := hfl)) zw_L_112 zn_X4_matadors (zcR_of rfl) zO_S0 FA.1 hA rfl (Nat.le_of_ble_eq_true rfl) dL_isGameSo_274) (zq_matadors_2_4 h) FA hA rfl rfl rfl ?_
  refine zj_istore 279 X (lv1 := [(0, .ref (a 0)), (1, .int 0), (2, .int (-1)), (3, .int (-99999)), (4, .int 1), (5, .int 2), (6, .int 4), (7, .int (-2))]) [1, 2, 3, 4, 5, 6, 7, 0] dL_isGameSo_277 (by decide) rfl rfl ?_
  refine zj_iload 281 X 7 dL_isGameSo_279 rfl rfl ?_
  refine zj_if_eq 284 351 X dL_isGameSo_281 (by decide) rfl (fun h9 => absurd h9 (by decide)) (fun _ => ?_)
  refine zj_iload 286 X 7 dL_isGameSo_284 rfl rfl ?_
  refine zj_iload 288 X 6 dL_isGameSo_286 rfl rfl ?_
  refine zj_iconst 289 X (v := 4) dL_isGameSo_288 (by decide) rfl ?_
  refine zj_icmp_ne 292 296 X dL_isGameSo_289 (by decide) rfl (fun h9 => absurd h9 (by decide)) (fun _ => ?_)
  refine zj_iconst 293 X (v := 4) dL_isGameSo_292 (by decide) rfl ?_
  refine zj_goto 298 X dL_isGameSo_293 (by decide) ?_
  refine zj_icmp_gt 301 351 X dL_isGameSo_298 (by decide) rfl (fun h9 => absurd h9 (by decide)) (fun _ => ?_)
  refine zj_iload 303 X 7 dL_isGameSo_301 rfl rfl ?_
  refine zj_iload 305 X 6 dL_isGameSo_303 rfl rfl ?_
  refine zj_iconst 306 X (v := 4) dL_isGameSo_305 (by decide) rfl ?_
  refine zj_icmp_ne 309 314 X dL_isGameSo_306 (by decide) rfl (fun h9 => absurd h9 (by decide)) (fun _ => ?_)
  refine zj_bipush 311 X (v := (-4)) dL_isGameSo_309 (by decide) rfl ?_
  refine zj_goto 316 X dL_isGameSo_311 (by decide) ?_
  refine zj_icmp_lt 319 351 X dL_isGameSo_316 (by decide) rfl (fun h9 => absurd h9 (by decide)) (fun _ => ?_)
  refine zj_iload 321 X 7 dL_isGameSo_319 rfl rfl ?_
  refine zj_if_le 324 328 X dL_isGameSo_321 (by decide) rfl (fun _ => ?_) (fun h9 => absurd h9 (by decide))
  refine zj_iconst 329 X (v := 0) dL_isGameSo_328 (by decide) rfl ?_
  refine zj_aload_n 330 X 0 dL_isGameSo_329 rfl rfl ?_
  refine zj_iload 332 X 5 dL_isGameSo_330 rfl rfl ?_
  refine zj_iconst 333 X (v := 4) dL_isGameSo_332 (by decide) rfl ?_
  refine zc_iq 336 (w := (-2)) 61 366 (zr_Vx (As := [.int 2, .int 4]) (rest := [.int 0]) X (zc_X4_matadors (l := l) (D := D) (C := C) (a := a) (u := u) (p0 := 2) (p1 := 4) (hfl := hfl)) zw_L_112 zn_X4_matadors (zcR_of rfl) zO_S0 FA.1 hA rfl (Nat.le_of_ble_eq_true rfl) dL_isGameSo_333) (zq_matadors_2_4 h) FA hA rfl rfl rfl ?_
  refine zj_if_le 339 343 X dL_isGameSo_336 (by decide) rfl (fun _ => ?_) (fun h9 => absurd h9 (by decide))
  refine zj_iconst 344 X (v := 0) dL_isGameSo_343 (by decide) rfl ?_
  refine zj_icmp_ne 347 351 X dL_isGameSo_344 (by decide) rfl (fun h9 => absurd h9 (by decide)) (fun _ => ?_)
  refine zj_iconst 348 X (v := 1) dL_isGameSo_347 (by decide) rfl ?_
  refine zj_goto 352 X dL_isGameSo_348 (by decide) ?_
  refine zj_istore 354 X (lv1 := [(0, .ref (a 0)), (1, .int 0), (2, .int (-1)), (3, .int (-99999)), (4, .int 1), (5, .int 2), (6, .int 4), (7, .int (-2))]) [1, 2, 3, 4, 0, 5, 6, 7] dL_isGameSo_352 (by decide) rfl rfl ?_
  refine zj_iinc 357 X (v := 5) (lv1 := [(0, .ref (a 0)), (1, .int 0), (2, .int (-1)), (3, .int (-99999)), (4, .int 1), (5, .int 2), (6, .int 5), (7, .int (-2))]) 6 [1, 2, 3, 4, 5, 6, 0, 7] dL_isGameSo_354 rfl (by decide) (by decide) rfl rfl ?_
  refine zj_goto 258 X dL_isGameSo_357 (by decide) ?_
  refine zj_iload 260 X 6 dL_isGameSo_258 rfl rfl ?_
  refine zj_iconst 261 X (v := 5) dL_isGameSo_260 (by decide) rfl ?_
  refine zj_icmp_ge 264 360 X dL_isGameSo_261 (by decide) rfl (fun _ => ?_) (fun h9 => absurd h9 (by decide))
  refine zj_iinc 363 X (v := 3) (lv1 := [(0, .ref (a 0)), (1, .int 0), (2, .int (-1)), (3, .int (-99999)), (4, .int 1), (5, .int 3), (6, .int 5), (7, .int (-2))]) 5 [1, 2, 3, 4, 5, 0, 6, 7] dL_isGameSo_360 rfl (by decide) (by decide) rfl rfl ?_
  refine zj_goto 244 X dL_isGameSo_363 (by decide) ?_
  refine zj_iload 246 X 5 dL_isGameSo_244 rfl rfl ?_
  refine zj_iconst 247 X (v := 3) dL_isGameSo_246 (by decide) rfl ?_
  refine zj_icmp_ge 250 366 X dL_isGameSo_247 (by decide) rfl (fun _ => ?_) (fun h9 => absurd h9 (by decide))
  refine zj_iload 368 X 4 dL_isGameSo_366 rfl rfl ?_
  refine zj_if_eq 371 404 X dL_isGameSo_368 (by decide) rfl (fun h9 => absurd h9 (by decide)) (fun _ => ?_)
  refine zj_iload_n 372 X 2 dL_isGameSo_371 rfl rfl ?_
  refine zj_iconst 373 X (v := 5) dL_isGameSo_372 (by decide) rfl ?_
  refine zj_icmp_ne 376 400 X dL_isGameSo_373 (by decide) rfl (fun _ => ?_) (fun h9 => absurd h9 (by decide))
  refine zj_iconst 401 X (v := 1) dL_isGameSo_400 (by decide) rfl ?_
  refine zj_goto 405 X dL_isGameSo_401 (by decide) ?_
  exact ze_gz (by decide) (by decide) (by decide) X Y (by decide) rfl dL_isGameSo_405
