/-! the law over a script of sixty-one threes: every turn is refused, and the heap grows -/
def zbig : Room := { frames := 20, cells := 25000, slots := 150000, locals := 500 }
def zcRk (rm : Room) (maxL mc ms : Nat) : Bool := Nat.beq rm.cells mc && (Nat.beq rm.slots ms && (Nat.ble (rm.frames + 1) 20 && Nat.ble (8 + (maxL + 11) + rm.locals) 500))
theorem zcR_k {rm : Room} {maxL mc ms cells slots : Nat} (h : zcRk rm maxL mc ms = true) (hc : cells + mc ≤ 25000) (hs : slots + ms ≤ 150000) : zcR zbig rm maxL mc ms cells slots := by
  simp only [zcRk, Bool.and_eq_true] at h
  exact ⟨Nat.eq_of_beq_eq_true h.1, Nat.eq_of_beq_eq_true h.2.1, ⟨Nat.le_of_ble_eq_true h.2.2.1, Nat.le_of_ble_eq_true h.2.2.2⟩, hc, hs⟩
abbrev zR_L_cell : Room := { frames := 0, cells := 0, slots := 0, locals := 0 }
set_option maxHeartbeats 4000000 in
set_option maxRecDepth 100000 in
theorem zc_L_cell {l : Launch} {D : va_G} {C : ClassId × ClassId} {b j : Nat} {xs : Nat → Int32} (hj : j < 61) (hxs : xs j = 3) : zk_Mx l yL_cell cL_cell 2 (some .int) zR_L_cell [.ref b, .int (nI j)] D C b 61 xs (vp_Si (fun r => r = 3)) := by
  refine zk_mx (by decide) (Nat.le_of_ble_eq_true rfl) ?_
  intro p e s m below meth c X Y hX hb
  show zJ _ _ _ _ _ _ _ _ _ _ _ _ _ _ _ _ _ 0 [(0, .ref b), (1, .int (nI j))] []
  refine zj_iload_n 1 X 1 dL_cell_0 rfl rfl ?_
  refine zj_aload_n 2 X 0 dL_cell_1 rfl rfl ?_
  refine zj_slen 3 X hX hb (fun h => h) dL_cell_2 rfl ?_
  refine zj_icmp_ge 6 12 X dL_cell_3 (by decide) rfl (fun h => absurd h (zge (N := 61) (by rfl) hj (by decide))) (fun _ => ?_)
  refine zj_aload_n 7 X 0 dL_cell_6 rfl rfl ?_
  refine zj_iload_n 8 X 1 dL_cell_7 rfl rfl ?_
  refine zj_sld 9 X hX hb (fun h => h) (vp_in_nI hj (by omega)) dL_cell_8 rfl ?_
  refine zj_goto 27 X dL_cell_9 (by decide) ?_
  exact ze_i X Y (by rw [nI_clamp (by omega)]; exact hxs) dL_cell_27
theorem zc_L_actv {l : Launch} {D : va_G} {C : ClassId × ClassId} {a : Nat → Nat} {u : zU} (h : zU1 u) (hfl : l.stackTraces = false) {v : Int32} (hv : v = 3 ∨ v = 1012 ∨ v = 2021) : zk_L l (.code yL_act cL_act 6 (some .int)) yL_act zR_L_act_3 1 6 [.ref (a 0), .int v] (zS C a u) D C (zQi D (zS C a u) 1 (-99999)) := by
  rcases hv with rfl | rfl | rfl
  · exact zc_L_act_3 h hfl
  · exact zc_L_act_1012 h hfl
  · exact zc_L_act_2021 h hfl
theorem zv3 {k : Nat} (hk : k < 150) : ∃ v : Int32, 3 + 1009 * nI (k / 61) = v ∧ (v = 3 ∨ v = 1012 ∨ v = 2021) := by
  have h : k / 61 < 3 := by omega
  generalize k / 61 = q at h
  rcases q with _ | _ | _ | q
  · exact ⟨3, by decide, Or.inl rfl⟩
  · exact ⟨1012, by decide, Or.inr (Or.inl rfl)⟩
  · exact ⟨2021, by decide, Or.inr (Or.inr rfl)⟩
  · omega
theorem zirem {k : Nat} (hk : k < 151) {d : Int32} {n : Nat} (hd : d = nI n) (h0 : 0 < n) (hn : n < 100) : nI k - nI k / d * d = nI (k % n) := by
  rw [hd, pk_rem (by omega) h0 (by omega)]
theorem zidiv {k : Nat} (hk : k < 151) : nI k / 61 = nI (k / 61) := by
  rw [show (61 : Int32) = nI 61 from rfl, pk_div (by omega) (by omega) (by omega)]
set_option maxHeartbeats 4000000 in
set_option maxRecDepth 100000 in
theorem zL_end {p : Program} {l : Launch} {e : Env} {s : State} {m : MethodId} {below : List Frame} {meth : Method} {c : Code} {D : va_G} {C : ClassId × ClassId} {A : Nat → Prop} {b0 : Nat} {xs : Nat → Int32} {a b : Nat → Nat} {u : zU} (hfl : l.stackTraces = false) (h : zU1 u) (X : zX p m c code 10 s #[Value.ref b0] RL D C A (zk_Kn A s 0)) (hX : va_X b0 61 xs s s.heap) (hbl : b0 < s.heap.size) (hbA : ¬ A b0) (hA : ∀ q, s.heap.size ≤ q → A q) (hxs : ∀ j, j < 61 → xs j = 3) (hD : va_D A (zS C a u ++ zS C b u)) (hr : meth.sig.returnType = some .boolean) (hk : meth.locks = false) : zJ p l e zbig s m #[Value.ref b0] below meth c (14 + 130 * 150) (136 + 780 * 150) (MQ below (fun _ _ _ t => s.heap.size + 207 ≤ t.heap.size) #[Value.ref b0] s 25000 150000 (fun _ => True)) D (zk_Kn A s (150 + 4 * (150 / 4))) 10 (zS C a u ++ zS C b u) 163 [(0, .ref b0), (1, .ref (a 0)), (2, .ref (b 0)), (3, .int (nI 150))] [] := by
  have FA : zFr D A (zS C a u ++ zS C b u) (zS C a u) := zFr_L hD
  have FB : zFr D A (zS C a u ++ zS C b u) (zS C b u) := zFr_R hD
  have FN : zFr D A (zS C a u ++ zS C b u) (zS C a u ++ zS C b u) := zFr_N hD
  have X := zXg (g' := 298) X
  refine zj_kn 298 (by decide) (zj_widen 19514 117136 (by decide) (by decide) ?_)
  refine zj_aload_n 164 X 1 dL_law_163 rfl rfl ?_
  refine zj_aload_n 165 X 2 dL_law_164 rfl rfl ?_
  refine zc_gi 168 19560 117412 302 (zr_L (As := [.ref (a 0), .ref (b 0)]) (rest := []) X (zc_L_areAlike (l := l) (D := D) (C := C) (a := a) (b := b) (u := u) h hfl) zw_L_132 zn_L_areAlike (zcR_k rfl (by decide) (by decide)) FN.1 hA rfl (Nat.le_of_ble_eq_true rfl) dL_law_165) FN hA rfl rfl rfl rfl ?_
  have X := zXg (g' := 302) X
  refine zj_if_eq 171 189 X dL_law_168 (by decide) rfl (fun h9 => absurd h9 (by decide)) (fun _ => ?_)
  refine zj_aload_n 172 X 1 dL_law_171 rfl rfl ?_
  refine zc_gi 175 19576 117508 303 (zr_L (As := [.ref (a 0)]) (rest := []) X (zc_L_areCardsSo (l := l) (D := D) (C := C) (a := a) (u := u) h hfl) zw_L_136 zn_L_areCardsSo (zcR_k rfl (by decide) (by decide)) FA.1 hA rfl (Nat.le_of_ble_eq_true rfl) dL_law_172) FA hA rfl rfl rfl rfl ?_
  have X := zXg (g' := 303) X
  refine zj_if_eq 178 189 X dL_law_175 (by decide) rfl (fun h9 => absurd h9 (by decide)) (fun _ => ?_)
  refine zj_aload_n 179 X 1 dL_law_178 rfl rfl ?_
  refine zc_gi 182 19637 117874 304 (zr_L (As := [.ref (a 0)]) (rest := []) X (zc_L_isGameSo (l := l) (D := D) (C := C) (a := a) (u := u) h hfl) zw_L_140 zn_L_isGameSo (zcR_k rfl (by decide) (by decide)) FA.1 hA rfl (Nat.le_of_ble_eq_true rfl) dL_law_179) FA hA rfl rfl rfl rfl ?_
  have X := zXg (g' := 304) X
  refine zj_if_eq 185 189 X dL_law_182 (by decide) rfl (fun h9 => absurd h9 (by decide)) (fun _ => ?_)
  refine zj_iconst 186 X (v := 1) dL_law_185 (by decide) rfl ?_
  refine zj_goto 190 X dL_law_186 (by decide) ?_
  intro H locs ls hP hK hl
  exact W.widen (by decide) (by decide) (W.zret X.1.1 X.1.2.1 hr (zb_nar (by decide)) (fun t ht hW => by rw [ht]; have := hK.2; omega) (fun _ _ => trivial) dL_law_190 hk)
set_option maxHeartbeats 40000000 in
set_option maxRecDepth 100000 in
theorem zL_turn {p : Program} {l : Launch} {e : Env} {s : State} {m : MethodId} {below : List Frame} {meth : Method} {c : Code} {D : va_G} {C : ClassId × ClassId} {A : Nat → Prop} {b0 : Nat} {xs : Nat → Int32} {a b : Nat → Nat} {u : zU} (hfl : l.stackTraces = false) (h : zU1 u) (X : zX p m c code 10 s #[Value.ref b0] RL D C A (zk_Kn A s 0)) (hX : va_X b0 61 xs s s.heap) (hbl : b0 < s.heap.size) (hbA : ¬ A b0) (hA : ∀ q, s.heap.size ≤ q → A q) (hxs : ∀ j, j < 61 → xs j = 3) (hD : va_D A (zS C a u ++ zS C b u)) {k : Nat} (hk : k < 150) (ih : zJ p l e zbig s m #[Value.ref b0] below meth c (14 + 130 * (k + 1)) (136 + 780 * (k + 1)) (MQ below (fun _ _ _ t => s.heap.size + 207 ≤ t.heap.size) #[Value.ref b0] s 25000 150000 (fun _ => True)) D (zk_Kn A s ((k + 1) + 4 * ((k + 1) / 4))) 10 (zS C a u ++ zS C b u) 18 [(0, .ref b0), (1, .ref (a 0)), (2, .ref (b 0)), (3, .int (nI (k + 1)))] []) : zJ p l e zbig s m #[Value.ref b0] below meth c (14 + 130 * k) (136 + 780 * k) (MQ below (fun _ _ _ t => s.heap.size + 207 ≤ t.heap.size) #[Value.ref b0] s 25000 150000 (fun _ => True)) D (zk_Kn A s (k + 4 * (k / 4))) 10 (zS C a u ++ zS C b u) 18 [(0, .ref b0), (1, .ref (a 0)), (2, .ref (b 0)), (3, .int (nI k))] [] := by
  have FA : zFr D A (zS C a u ++ zS C b u) (zS C a u) := zFr_L hD
  have FB : zFr D A (zS C a u ++ zS C b u) (zS C b u) := zFr_R hD
  have FN : zFr D A (zS C a u ++ zS C b u) (zS C a u ++ zS C b u) := zFr_N hD
  have X := zXg (g' := k + 4 * (k / 4)) X
  refine zj_iload_n 19 X 3 dL_law_18 rfl rfl ?_
  refine zj_sipush 22 X (v := 150) dL_law_19 (by decide) rfl ?_
  refine zj_icmp_ge 25 163 X dL_law_22 (by decide) rfl (fun h9 => absurd h9 (zge (N := 150) (by rfl) hk (by decide))) (fun _ => ?_)
  refine zj_aload_n 26 X 0 dL_law_25 rfl rfl ?_
  refine zj_iload_n 27 X 3 dL_law_26 rfl rfl ?_
  refine zj_bipush 29 X (v := 61) dL_law_27 (by decide) rfl ?_
  refine zj_irem 30 X dL_law_29 (by decide) rfl ?_
  refine zj_ti (nI (k % 61)) (zirem (by omega) (n := 61) (by rfl) (by omega) (by omega)) ?_
  have hj : k % 61 < 61 := Nat.mod_lt _ (by decide)
  refine zc_iv 33 3 (zr_Sx (As := [.ref b0, .int (nI (k % 61))]) (rest := []) X (zc_L_cell (l := l) (D := D) (C := C) (b := b0) (xs := xs) hj (hxs _ hj)) zw_L_120 zn_L_cell (zcR_k rfl (by omega) (by omega)) hX hbl hbA rfl (Nat.le_of_ble_eq_true rfl) dL_law_30) rfl rfl ?_
  refine zj_sipush 36 X (v := 1009) dL_law_33 (by decide) rfl ?_
  refine zj_iload_n 37 X 3 dL_law_36 rfl rfl ?_
  refine zj_bipush 39 X (v := 61) dL_law_37 (by decide) rfl ?_
  refine zj_idiv 40 X dL_law_39 (by decide) rfl ?_
  refine zj_ti (nI (k / 61)) (zidiv (by omega)) ?_
  refine zj_imul 41 X dL_law_40 rfl ?_
  refine zj_iadd 42 X dL_law_41 rfl ?_
  obtain ⟨v, hv1, hv⟩ := zv3 hk
  refine zj_ti v hv1 ?_
  refine zj_istore 44 X (lv1 := [(0, .ref b0), (1, .ref (a 0)), (2, .ref (b 0)), (3, .int (nI k)), (4, .int v)]) [1, 2, 3, 4, 0] dL_law_42 (by decide) rfl rfl ?_
  refine zj_aload_n 45 X 1 dL_law_44 rfl rfl ?_
  refine zc_iv 48 0 (zr_V (As := []) (rest := []) (wsub := zS C a u) X (zc_X4_phase (l := l) (D := D) (C := C) (a := a) (u := u)) zw_L_60 zn_X4_phase (zcR_k rfl (by omega) (by omega)) (zcO_l zO_S0) (fun _ h => zP_l h) rfl (Nat.le_of_ble_eq_true rfl) dL_law_45) (zq_phase h) rfl ?_
  refine zj_istore 50 X (lv1 := [(0, .ref b0), (1, .ref (a 0)), (2, .ref (b 0)), (3, .int (nI k)), (4, .int v), (5, .int 0)]) [1, 2, 3, 4, 5, 0] dL_law_48 (by decide) rfl rfl ?_
  refine zj_aload_n 51 X 1 dL_law_50 rfl rfl ?_
  refine zj_iconst 52 X (v := 0) dL_law_51 (by decide) rfl ?_
  refine zc_iq 55 (w := 0) (14 + 130 * k + 1) (136 + 780 * k + 6) (zr_Vx (As := [.int 0]) (rest := []) X (zc_X4_score (l := l) (D := D) (C := C) (a := a) (u := u) (p0 := 0) (hfl := hfl)) zw_L_106 zn_X4_score (zcR_k rfl (by omega) (by omega)) zO_S0 FA.1 hA rfl (Nat.le_of_ble_eq_true rfl) dL_law_52) (zq_score_0 h) FA hA (by omega) (by omega) rfl ?_
  refine zj_istore 57 X (lv1 := [(0, .ref b0), (1, .ref (a 0)), (2, .ref (b 0)), (3, .int (nI k)), (4, .int v), (5, .int 0), (6, .int 0)]) [1, 2, 3, 4, 5, 6, 0] dL_law_55 (by decide) rfl rfl ?_
  refine zj_aload_n 58 X 1 dL_law_57 rfl rfl ?_
  refine zj_iconst 59 X (v := 1) dL_law_58 (by decide) rfl ?_
  refine zc_iq 62 (w := 0) (14 + 130 * k + 2) (136 + 780 * k + 12) (zr_Vx (As := [.int 1]) (rest := []) X (zc_X4_score (l := l) (D := D) (C := C) (a := a) (u := u) (p0 := 1) (hfl := hfl)) zw_L_106 zn_X4_score (zcR_k rfl (by omega) (by omega)) zO_S0 FA.1 hA rfl (Nat.le_of_ble_eq_true rfl) dL_law_59) (zq_score_1 h) FA hA (by omega) (by omega) rfl ?_
  refine zj_istore 64 X (lv1 := [(0, .ref b0), (1, .ref (a 0)), (2, .ref (b 0)), (3, .int (nI k)), (4, .int v), (5, .int 0), (6, .int 0), (7, .int 0)]) [1, 2, 3, 4, 5, 6, 7, 0] dL_law_62 (by decide) rfl rfl ?_
  refine zj_aload_n 65 X 1 dL_law_64 rfl rfl ?_
  refine zj_iconst 66 X (v := 2) dL_law_65 (by decide) rfl ?_
  refine zc_iq 69 (w := 0) (14 + 130 * k + 3) (136 + 780 * k + 18) (zr_Vx (As := [.int 2]) (rest := []) X (zc_X4_score (l := l) (D := D) (C := C) (a := a) (u := u) (p0 := 2) (hfl := hfl)) zw_L_106 zn_X4_score (zcR_k rfl (by omega) (by omega)) zO_S0 FA.1 hA rfl (Nat.le_of_ble_eq_true rfl) dL_law_66) (zq_score_2 h) FA hA (by omega) (by omega) rfl ?_
  refine zj_istore 71 X (lv1 := [(0, .ref b0), (1, .ref (a 0)), (2, .ref (b 0)), (3, .int (nI k)), (4, .int v), (5, .int 0), (6, .int 0), (7, .int 0), (8, .int 0)]) [1, 2, 3, 4, 5, 6, 7, 8, 0] dL_law_69 (by decide) rfl rfl ?_
  refine zj_aload_n 72 X 1 dL_law_71 rfl rfl ?_
  refine zj_iload 74 X 4 dL_law_72 rfl rfl ?_
  refine zc_gi 77 (14 + 130 * k + 4) (136 + 780 * k + 24) (k + 4 * (k / 4) + 1) (zr_L (As := [.ref (a 0), .int v]) (rest := []) X (zc_L_actv (l := l) (D := D) (C := C) (a := a) (u := u) h hfl hv) zw_L_124 zn_L_act (zcR_k rfl (by omega) (by omega)) FA.1 hA rfl (Nat.le_of_ble_eq_true rfl) dL_law_74) FA hA (by omega) (by omega) rfl rfl ?_
  have X := zXg (g' := k + 4 * (k / 4) + 1) X
  refine zj_istore 79 X (lv1 := [(0, .ref b0), (1, .ref (a 0)), (2, .ref (b 0)), (3, .int (nI k)), (4, .int v), (5, .int 0), (6, .int 0), (7, .int 0), (8, .int 0), (9, .int (-99999))]) [1, 2, 3, 4, 5, 6, 7, 8, 9, 0] dL_law_77 (by decide) rfl rfl ?_
  refine zj_iload 81 X 9 dL_law_79 rfl rfl ?_
  refine zj_ldc 83 X (v := (-99999)) (zG_t 505 (by decide +kernel) rfl) dL_law_81 rfl ?_
  refine zj_icmp_eq 86 97 X dL_law_83 (by decide) rfl (fun _ => ?_) (fun h9 => absurd rfl h9)
  refine zj_aload_n 98 X 1 dL_law_97 rfl rfl ?_
  refine zj_iload 100 X 5 dL_law_98 rfl rfl ?_
  refine zj_iload 102 X 6 dL_law_100 rfl rfl ?_
  refine zj_iload 104 X 7 dL_law_102 rfl rfl ?_
  refine zj_iload 106 X 8 dL_law_104 rfl rfl ?_
  refine zc_gi 109 (14 + 130 * k + 7) (136 + 780 * k + 42) (k + 4 * (k / 4) + 1) (zr_L (As := [.ref (a 0), .int 0, .int 0, .int 0, .int 0]) (rest := []) X (zc_L_areScoresSo (l := l) (D := D) (C := C) (a := a) (u := u) h hfl) zw_L_128 zn_L_areScoresSo (zcR_k rfl (by omega) (by omega)) FA.1 hA rfl (Nat.le_of_ble_eq_true rfl) dL_law_106) FA hA (by omega) (by omega) rfl rfl ?_
  refine zj_if_eq 112 155 X dL_law_109 (by decide) rfl (fun h9 => absurd h9 (by decide)) (fun _ => ?_)
  have J157 : zJ p l e zbig s m #[Value.ref b0] below meth c (14 + 130 * k + 130) (136 + 780 * k + 780) (MQ below (fun _ _ _ t => s.heap.size + 207 ≤ t.heap.size) #[Value.ref b0] s 25000 150000 (fun _ => True)) D (zk_Kn A s ((k + 1) + 4 * ((k + 1) / 4))) 10 (zS C a u ++ zS C b u) 157 [(0, .ref b0), (1, .ref (a 0)), (2, .ref (b 0)), (3, .int (nI k)), (4, .int v), (5, .int 0), (6, .int 0), (7, .int 0), (8, .int 0), (9, .int (-99999))] [] := by
    have X := zXg (g' := (k + 1) + 4 * ((k + 1) / 4)) X
    refine zj_iinc 160 X (v := nI (k + 1)) (lv1 := [(0, .ref b0), (1, .ref (a 0)), (2, .ref (b 0)), (3, .int (nI (k + 1))), (4, .int v), (5, .int 0), (6, .int 0), (7, .int 0), (8, .int 0), (9, .int (-99999))]) 3 [1, 2, 3, 0, 4, 5, 6, 7, 8, 9] dL_law_157 rfl (zinc _) (by decide) rfl rfl ?_
    refine zj_goto 18 X dL_law_160 (by decide) ?_
    refine zj_lv (lv1 := [(0, .ref b0), (1, .ref (a 0)), (2, .ref (b 0)), (3, .int (nI (k + 1)))]) [0, 1, 2, 3] rfl ?_
    exact zj_widen _ _ (by omega) (by omega) ih
  have J141 : zJ p l e zbig s m #[Value.ref b0] below meth c (14 + 130 * k + 69) (136 + 780 * k + 414) (MQ below (fun _ _ _ t => s.heap.size + 207 ≤ t.heap.size) #[Value.ref b0] s 25000 150000 (fun _ => True)) D (zk_Kn A s ((k + 1) + 4 * ((k + 1) / 4))) 10 (zS C a u ++ zS C b u) 141 [(0, .ref b0), (1, .ref (a 0)), (2, .ref (b 0)), (3, .int (nI k)), (4, .int v), (5, .int 0), (6, .int 0), (7, .int 0), (8, .int 0), (9, .int (-99999))] [] := by
    have X := zXg (g' := (k + 1) + 4 * ((k + 1) / 4)) X
    refine zj_iload_n 142 X 3 dL_law_141 rfl rfl ?_
    refine zj_iconst 143 X (v := 5) dL_law_142 (by decide) rfl ?_
    refine zj_irem 144 X dL_law_143 (by decide) rfl ?_
    refine zj_ti (nI (k % 5)) (zirem (by omega) (n := 5) (by rfl) (by omega) (by omega)) ?_
    refine zj_iconst 145 X (v := 2) dL_law_144 (by decide) rfl ?_
    refine zj_icmp_ne 148 157 X dL_law_145 (by decide) rfl (fun _ => zj_widen _ _ (by omega) (by omega) J157) (fun _ => ?_)
    refine zj_aload_n 149 X 1 dL_law_148 rfl rfl ?_
    refine zc_gi 152 (14 + 130 * k + 130) (136 + 780 * k + 780) ((k + 1) + 4 * ((k + 1) / 4) + 1) (zr_L (As := [.ref (a 0)]) (rest := []) X (zc_L_isGameSo (l := l) (D := D) (C := C) (a := a) (u := u) h hfl) zw_L_140 zn_L_isGameSo (zcR_k rfl (by omega) (by omega)) FA.1 hA rfl (Nat.le_of_ble_eq_true rfl) dL_law_149) FA hA (by omega) (by omega) rfl rfl ?_
    have X := zXg (g' := (k + 1) + 4 * ((k + 1) / 4) + 1) X
    exact zj_if_ne 155 157 X dL_law_152 (by decide) rfl (fun _ => zj_kn _ (by omega) J157) (fun h9 => absurd h9 (by decide))
  have J127 : zJ p l e zbig s m #[Value.ref b0] below meth c (14 + 130 * k + 53) (136 + 780 * k + 318) (MQ below (fun _ _ _ t => s.heap.size + 207 ≤ t.heap.size) #[Value.ref b0] s 25000 150000 (fun _ => True)) D (zk_Kn A s ((k + 1) + 4 * ((k + 1) / 4))) 10 (zS C a u ++ zS C b u) 127 [(0, .ref b0), (1, .ref (a 0)), (2, .ref (b 0)), (3, .int (nI k)), (4, .int v), (5, .int 0), (6, .int 0), (7, .int 0), (8, .int 0), (9, .int (-99999))] [] := by
    have X := zXg (g' := (k + 1) + 4 * ((k + 1) / 4)) X
    refine zj_iload_n 128 X 3 dL_law_127 rfl rfl ?_
    refine zj_iconst 129 X (v := 3) dL_law_128 (by decide) rfl ?_
    refine zj_irem 130 X dL_law_129 (by decide) rfl ?_
    refine zj_ti (nI (k % 3)) (zirem (by omega) (n := 3) (by rfl) (by omega) (by omega)) ?_
    refine zj_iconst 131 X (v := 1) dL_law_130 (by decide) rfl ?_
    refine zj_icmp_ne 134 141 X dL_law_131 (by decide) rfl (fun _ => zj_widen _ _ (by omega) (by omega) J141) (fun _ => ?_)
    refine zj_aload_n 135 X 1 dL_law_134 rfl rfl ?_
    refine zc_gi 138 (14 + 130 * k + 69) (136 + 780 * k + 414) ((k + 1) + 4 * ((k + 1) / 4) + 1) (zr_L (As := [.ref (a 0)]) (rest := []) X (zc_L_areCardsSo (l := l) (D := D) (C := C) (a := a) (u := u) h hfl) zw_L_136 zn_L_areCardsSo (zcR_k rfl (by omega) (by omega)) FA.1 hA rfl (Nat.le_of_ble_eq_true rfl) dL_law_135) FA hA (by omega) (by omega) rfl rfl ?_
    have X := zXg (g' := (k + 1) + 4 * ((k + 1) / 4) + 1) X
    exact zj_if_eq 141 155 X dL_law_138 (by decide) rfl (fun h9 => absurd h9 (by decide)) (fun _ => zj_kn _ (by omega) J141)
  refine zj_iload_n 113 X 3 dL_law_112 rfl rfl ?_
  refine zj_iconst 114 X (v := 4) dL_law_113 (by decide) rfl ?_
  refine zj_irem 115 X dL_law_114 (by decide) rfl ?_
  refine zj_ti (nI (k % 4)) (zirem (by omega) (n := 4) (by rfl) (by omega) (by omega)) ?_
  refine zj_iconst 116 X (v := 3) dL_law_115 (by decide) rfl ?_
  refine zj_icmp_ne 119 127 X dL_law_116 (by decide) rfl (fun h9 => ?_) (fun h9 => ?_)
  · have h8 : ¬ k % 4 = 3 := fun h7 => h9 (by rw [h7]; rfl)
    exact zj_widen _ _ (by omega) (by omega) (zj_kn _ (by omega) J127)
  · have h8 : k % 4 = 3 := (nI_eq (by omega) (by omega)).mp h9
    refine zj_aload_n 120 X 1 dL_law_119 rfl rfl ?_
    refine zj_aload_n 121 X 2 dL_law_120 rfl rfl ?_
    refine zc_gi 124 (14 + 130 * k + 53) (136 + 780 * k + 318) (k + 4 * (k / 4) + 1 + 4) (zr_L (As := [.ref (a 0), .ref (b 0)]) (rest := []) X (zc_L_areAlike (l := l) (D := D) (C := C) (a := a) (b := b) (u := u) h hfl) zw_L_132 zn_L_areAlike (zcR_k rfl (by omega) (by omega)) FN.1 hA rfl (Nat.le_of_ble_eq_true rfl) dL_law_121) FN hA (by omega) (by omega) rfl rfl ?_
    have X := zXg (g' := k + 4 * (k / 4) + 1 + 4) X
    exact zj_if_eq 127 155 X dL_law_124 (by decide) rfl (fun h9 => absurd h9 (by decide)) (fun _ => zj_kn _ (by omega) J127)
theorem zL_loop {p : Program} {l : Launch} {e : Env} {s : State} {m : MethodId} {below : List Frame} {meth : Method} {c : Code} {D : va_G} {C : ClassId × ClassId} {A : Nat → Prop} {b0 : Nat} {xs : Nat → Int32} {a b : Nat → Nat} {u : zU} (hfl : l.stackTraces = false) (h : zU1 u) (X : zX p m c code 10 s #[Value.ref b0] RL D C A (zk_Kn A s 0)) (hX : va_X b0 61 xs s s.heap) (hbl : b0 < s.heap.size) (hbA : ¬ A b0) (hA : ∀ q, s.heap.size ≤ q → A q) (hxs : ∀ j, j < 61 → xs j = 3) (hD : va_D A (zS C a u ++ zS C b u)) (hr : meth.sig.returnType = some .boolean) (hk : meth.locks = false) : ∀ n k : Nat, k + n = 150 → zJ p l e zbig s m #[Value.ref b0] below meth c (14 + 130 * k) (136 + 780 * k) (MQ below (fun _ _ _ t => s.heap.size + 207 ≤ t.heap.size) #[Value.ref b0] s 25000 150000 (fun _ => True)) D (zk_Kn A s (k + 4 * (k / 4))) 10 (zS C a u ++ zS C b u) 18 [(0, .ref b0), (1, .ref (a 0)), (2, .ref (b 0)), (3, .int (nI k))] [] := by
  intro n
  induction n with
  | zero =>
    intro k h1
    obtain rfl : k = 150 := by omega
    have X1 := zXg (g' := 150 + 4 * (150 / 4)) X
    refine zj_iload_n 19 X1 3 dL_law_18 rfl rfl ?_
    refine zj_sipush 22 X1 (v := 150) dL_law_19 (by decide) rfl ?_
    exact zj_icmp_ge 25 163 X1 dL_law_22 (by decide) rfl (fun _ => zL_end hfl h X hX hbl hbA hA hxs hD hr hk) (fun h9 => absurd (zge0 (N := 150) (by rfl) rfl) h9)
  | succ n ih => exact fun k h1 => zL_turn hfl h X hX hbl hbA hA hxs hD (by omega) (ih (k + 1) (by omega))
