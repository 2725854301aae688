/-! the law's body -/
section ZB
variable {p : Program} {l : Launch} {e : Env} {s : State} {m : MethodId} {below : List Frame} {meth : Method} {c : Code} {cells slots : Nat} {Q : State → Prop} {D : va_G} {C : ClassId × ClassId} {A : Nat → Prop} {b0 L : Nat} {xs : Nat → Int32} {a b : Nat → Nat} {o : Nat}
def zLX (p : Program) (s : State) (m : MethodId) (c : Code) (D : va_G) (C : ClassId × ClassId) (A : Nat → Prop) (b0 L : Nat) (xs : Nat → Int32) : Prop := zX p m c code 8 s #[Value.ref b0] RL D C A (zk_Km A s) ∧ va_X b0 L xs s s.heap ∧ b0 < s.heap.size ∧ ¬ A b0 ∧ (∀ q, s.heap.size ≤ q → A q) ∧ ∀ q, A q → s.heap.size ≤ q
theorem zcO_l {w1 w2 : va_W} {q : Nat} {Cn : String} (h : zcO w1 q Cn) : zcO (w1 ++ w2) q Cn := by
  obtain ⟨ci, q0, q, fs, h1, h2, h3⟩ := h
  exact ⟨ci, q0, q, fs, h1, z_app_l h2, h3⟩
theorem zcO_r {w1 w2 : va_W} {q : Nat} {Cn : String} (h : zcO w2 q Cn) : zcO (w1 ++ w2) q Cn := by
  obtain ⟨ci, q0, q, fs, h1, h2, h3⟩ := h
  exact ⟨ci, w1.length + q0, q, fs, h1, z_app_r h2, h3⟩
def zcRk (rm : Room) (maxL mc ms : Nat) : Bool := Nat.beq rm.cells mc && (Nat.beq rm.slots ms && (Nat.ble (rm.frames + 1) 11 && Nat.ble (8 + (maxL + 11) + rm.locals) 382))
theorem zcR_k {rm : Room} {maxL mc ms : Nat} (h : zcRk rm maxL mc ms = true) (hc : cells + mc ≤ 1060) (hs : slots + ms ≤ 8453) : zcR room_1 rm maxL mc ms cells slots := by
  simp only [zcRk, Bool.and_eq_true] at h
  exact ⟨Nat.eq_of_beq_eq_true h.1, Nat.eq_of_beq_eq_true h.2.1, ⟨Nat.le_of_ble_eq_true h.2.2.1, Nat.le_of_ble_eq_true h.2.2.2⟩, hc, hs⟩
theorem zlc_eq {x y : Int64} (h : x = y) : lg_cmp x y = 0 := by
  subst h
  unfold lg_cmp
  simp
variable {R : Room} {args : Array Value} {nL : Nat} {cc : ByteArray} {own : String} {lv : List (Nat × Value)} {rest : List Value} {pc : Nat} {ws : va_W}
theorem zj_widen (c1 s1 : Nat) (hc : cells ≤ c1) (hs : slots ≤ s1) (k : zJ p l e R s m args below meth c c1 s1 Q D (zk_Km A s) nL ws pc lv rest) : zJ p l e R s m args below meth c cells slots Q D (zk_Km A s) nL ws pc lv rest := fun H locs ls hP hK hl => W.widen hc hs (k H locs ls hP hK hl)
theorem zj_slen (np : Nat) (X : zX p m c cc nL s args own D C A (zk_Km A s)) (hX : va_X b0 L xs s s.heap) (hbl : b0 < s.heap.size) (hbA : ¬ A b0) (d : decode cc pc = .ok (.arraylength, 1)) (hn : pc + 1 = np) (k : zJ p l e R s m args below meth c cells slots Q D (zk_Km A s) nL ws np lv (.int (Int32.ofNat L) :: rest)) : zJ p l e R s m args below meth c cells slots Q D (zk_Km A s) nL ws pc lv (.ref b0 :: rest) := by
  subst hn; exact fun H locs ls hP hK hl => va_slen X.1.1 X.1.2.1 hX hbl hbA hK d (k H locs ls hP hK hl)
theorem zj_sld (np : Nat) (X : zX p m c cc nL s args own D C A (zk_Km A s)) (hX : va_X b0 L xs s s.heap) (hbl : b0 < s.heap.size) (hbA : ¬ A b0) {i : Int32} (hi : vp_in i L) (d : decode cc pc = .ok (.iaload, 1)) (hn : pc + 1 = np) (k : zJ p l e R s m args below meth c cells slots Q D (zk_Km A s) nL ws np lv (.int (xs i.toNatClampNeg) :: rest)) : zJ p l e R s m args below meth c cells slots Q D (zk_Km A s) nL ws pc lv (.int i :: .ref b0 :: rest) := by
  subst hn; exact fun H locs ls hP hK hl => va_sld X.1.1 X.1.2.1 hX hbl hbA hK hi d (k H locs ls hP hK hl)
theorem zj_tin (tgt : Nat) (X : zX p m c cc nL s args own D C A (zk_Km A s)) {dflt lo hi : Int} {offs : Array Int} {len : Nat} {x : Int32} {off : Int} (d : decode cc pc = .ok (.tableswitch dflt lo hi offs, len)) (h1 : ¬ x.toInt < lo) (h2 : ¬ hi < x.toInt) (ho : offs[(x.toInt - lo).toNat]? = some off) (ht : (pc : Int) + off = (tgt : Int)) (k : zJ p l e R s m args below meth c cells slots Q D (zk_Km A s) nL ws tgt lv rest) : zJ p l e R s m args below meth c cells slots Q D (zk_Km A s) nL ws pc lv (.int x :: rest) := fun H locs ls hP hK hl => lv_tableIn X.1.1 X.1.2.1 d h1 h2 ho ht (k H locs ls hP hK hl)
theorem zj_tout (tgt : Nat) (X : zX p m c cc nL s args own D C A (zk_Km A s)) {dflt lo hi : Int} {offs : Array Int} {len : Nat} {x : Int32} (d : decode cc pc = .ok (.tableswitch dflt lo hi offs, len)) (h : x.toInt < lo ∨ hi < x.toInt) (ht : (pc : Int) + dflt = (tgt : Int)) (k : zJ p l e R s m args below meth c cells slots Q D (zk_Km A s) nL ws tgt lv rest) : zJ p l e R s m args below meth c cells slots Q D (zk_Km A s) nL ws pc lv (.int x :: rest) := fun H locs ls hP hK hl => lv_tableOut X.1.1 X.1.2.1 d h ht (k H locs ls hP hK hl)
theorem zl_out (np : Nat) {v : zN} {w : zU × (Nat → Int64)} (X : zX p m c cc nL s args own D C A (zk_Km A s)) (d : decode cc pc = .ok (.laload, 1)) (hn : pc + 1 = np) (k : zJ p l e R s m args below meth c cells slots Q D (zk_Km A s) nL (zM C b v ++ zWo C a o w) np lv (.long (w.2 0) :: rest)) : zJ p l e R s m args below meth c cells slots Q D (zk_Km A s) nL (zM C b v ++ zWo C a o w) pc lv (.int 0 :: .ref o :: rest) := by
  subst hn; exact fun H locs ls hP hK hl => va_lald X.1.1 X.1.2.1 X.2.1 hP 15 1 rfl rfl (vp_in_iff.mpr (by decide)) d (k H locs ls hP hK hl)
end ZB
set_option maxHeartbeats 4000000 in
set_option maxRecDepth 100000 in
theorem zLc_0_deal {p : Program} {l : Launch} {e : Env} {s : State} {m : MethodId} {below : List Frame} {meth : Method} {c : Code} {cells slots : Nat} {Q : State → Prop} {D : va_G} {C : ClassId × ClassId} {A : Nat → Prop} {b0 L : Nat} {xs : Nat → Int32} {a b : Nat → Nat} {o : Nat} (hfl : l.stackTraces = false) (F : zLX p s m c D C A b0 L xs) (hD : ∀ (v : zN) (w : zU × (Nat → Int64)), va_D A (zM C b v ++ zWo C a o w)) {n : Nat} {v : zN} {w : zU × (Nat → Int64)} {i : Int32} (hR : zRel n w.1 v) (hn : n < 600) (hc : cells + 2 ≤ 1060) (hs : slots + 12 ≤ 8453) (h1 : vp_in (i + 1) L) (h2 : vp_in (i + 2) L)
    (kk : ∀ (v' : zN) (w' : zU × (Nat → Int64)), zRel (n + 1) w'.1 v' → zJ p l e room_1 s m #[Value.ref b0] below meth c (cells + 2) (slots + 12) Q D (zk_Km A s) 8 (zM C b v' ++ zWo C a o w') 1130 [(0, .ref b0), (1, .ref (a 0)), (2, .ref (b 0)), (3, .ref o), (4, .int i)] []) : zJ p l e room_1 s m #[Value.ref b0] below meth c cells slots Q D (zk_Km A s) 8 (zM C b v ++ zWo C a o w) 140 [(0, .ref b0), (1, .ref (a 0)), (2, .ref (b 0)), (3, .ref o), (4, .int i)] [] := by
  obtain ⟨X, hX, hbl, hbA, hA, -⟩ := F
  obtain ⟨s1, s2, s3⟩ := zSo_deal (w := w) (p0 := (xs (i + 1).toNatClampNeg)) hR hn
  refine zj_aload_n 141 X 1 dL_law_140 rfl rfl ?_
  refine zj_aload_n 142 X 0 dL_law_141 rfl rfl ?_
  refine zj_iload 144 X 4 dL_law_142 rfl rfl ?_
  refine zj_iconst 145 X (v := 1) dL_law_144 (by decide) rfl ?_
  refine zj_iadd 146 X dL_law_145 rfl ?_
  refine zj_sld 147 X hX hbl hbA h1 dL_law_146 rfl ?_
  refine zj_aload_n 148 X 3 dL_law_147 rfl rfl ?_
  refine zc_ifr 151 (wr := zM C b v) (wc := zWo C a o w) (Wd := zWo C a o) (v := zw_deal w (xs (i + 1).toNatClampNeg)) (mc := 1) (ms := 6) (zr_Sw (n := 3) (As := [.ref (a 0), .int (xs (i + 1).toNatClampNeg), .ref o]) (rest := []) X (zc_L_deal (l := l) (D := D) (C := C) (a := a) (o := o) (w := w) (p0 := (xs (i + 1).toNatClampNeg)) hfl) (zG_t 174 (by decide +kernel) rfl) (zG_t 175 (by decide +kernel) rfl) (zG_t 0 (by decide +kernel) rfl) (zG_t 176 (by decide +kernel) rfl) ⟨by decide +kernel, by decide +kernel, by decide +kernel⟩ (zcR_k rfl (by omega) (by omega)) (zD_r (hD v w)) hA rfl (Nat.le_of_ble_eq_true rfl) dL_law_148) (hD _ _) hA rfl ?_
  refine zj_istore 153 X (lv1 := [(0, .ref b0), (1, .ref (a 0)), (2, .ref (b 0)), (3, .ref o), (4, .int i), (5, .int ((zw_deal w (xs (i + 1).toNatClampNeg)).1))]) [1, 2, 3, 4, 5, 0] dL_law_151 (by decide) rfl rfl ?_
  refine zj_aload_n 154 X 2 dL_law_153 rfl rfl ?_
  refine zj_aload_n 155 X 0 dL_law_154 rfl rfl ?_
  refine zj_iload 157 X 4 dL_law_155 rfl rfl ?_
  refine zj_iconst 158 X (v := 1) dL_law_157 (by decide) rfl ?_
  refine zj_iadd 159 X dL_law_158 rfl ?_
  refine zj_sld 160 X hX hbl hbA h1 dL_law_159 rfl ?_
  refine zc_ifl 163 (wc := zM C b v) (wr := zWo C a o (zw_deal w (xs (i + 1).toNatClampNeg)).2) (Wd := zM C b) (v := zf_X5_deal v (xs (i + 1).toNatClampNeg)) (mc := 0) (ms := 0) (zr_Vm (As := [.int (xs (i + 1).toNatClampNeg)]) (rest := []) X (zc_X5_deal (l := l) (D := D) (C := C) (a := b) (v := v) (p0 := (xs (i + 1).toNatClampNeg)) ) zw_L_80 zn_X5_deal (zcR_k rfl (by omega) (by omega)) zO_M (zD_l (hD v w)) hA rfl (Nat.le_of_ble_eq_true rfl) dL_law_160) (hD _ _) hA rfl ?_
  refine zj_istore 165 X (lv1 := [(0, .ref b0), (1, .ref (a 0)), (2, .ref (b 0)), (3, .ref o), (4, .int i), (5, .int ((zw_deal w (xs (i + 1).toNatClampNeg)).1)), (6, .int ((zf_X5_deal v (xs (i + 1).toNatClampNeg)).1))]) [1, 2, 3, 4, 5, 6, 0] dL_law_163 (by decide) rfl rfl ?_
  refine zj_aload_n 166 X 2 dL_law_165 rfl rfl ?_
  refine zc_i 169 (zr_V (As := []) (rest := []) (wsub := zM C b (zf_X5_deal v (xs (i + 1).toNatClampNeg)).2) X (zc_X5_thrown (l := l) (D := D) (C := C) (a := b) (v := (zf_X5_deal v (xs (i + 1).toNatClampNeg)).2)) zw_L_81 zn_X5_thrown (zcR_k rfl (by omega) (by omega)) (zcO_l zO_M) (fun H h => zP_l h) rfl (Nat.le_of_ble_eq_true rfl) dL_law_166) rfl ?_
  refine zj_iload 171 X 5 dL_law_169 rfl rfl ?_
  refine zj_icmp_eq 174 176 X dL_law_171 (by decide) rfl (fun _ => ?_) (fun h => absurd s1.symm h)
  refine zj_iload 178 X 5 dL_law_176 rfl rfl ?_
  refine zj_join 193 [(0, .ref b0), (1, .ref (a 0)), (2, .ref (b 0)), (3, .ref o), (4, .int i), (5, .int ((zw_deal w (xs (i + 1).toNatClampNeg)).1)), (6, .int ((zf_X5_deal v (xs (i + 1).toNatClampNeg)).1))] [] ?_ (fun J1 => ?_)
  · refine zj_goto 1130 X dL_law_193 (by decide) ?_
    refine zj_widen (cells + 2) (slots + 12) (by omega) (by omega) ?_
    refine zj_lv [0, 1, 2, 3, 4] (lv1 := [(0, .ref b0), (1, .ref (a 0)), (2, .ref (b 0)), (3, .ref o), (4, .int i)]) rfl ?_
    exact kk _ _ s3
  refine zj_if_ne 181 193 X dL_law_178 (by decide) rfl (fun _ => J1) (fun h0 => ?_)
  refine zj_aload_n 182 X 3 dL_law_181 rfl rfl ?_
  refine zj_iconst 183 X (v := 0) dL_law_182 (by decide) rfl ?_
  refine zl_out 184 X dL_law_183 rfl ?_
  refine zj_iload 186 X 6 dL_law_184 rfl rfl ?_
  refine zj_i2l 187 X dL_law_186 rfl rfl ?_
  refine zj_lcmp 188 X dL_law_187 rfl ?_
  exact zj_if_eq 191 193 X dL_law_188 (by decide) rfl (fun _ => J1) (fun h => absurd (zlc_eq (s2 h0)) h)
set_option maxHeartbeats 4000000 in
set_option maxRecDepth 100000 in
theorem zLc_1_phase {p : Program} {l : Launch} {e : Env} {s : State} {m : MethodId} {below : List Frame} {meth : Method} {c : Code} {cells slots : Nat} {Q : State → Prop} {D : va_G} {C : ClassId × ClassId} {A : Nat → Prop} {b0 L : Nat} {xs : Nat → Int32} {a b : Nat → Nat} {o : Nat} (hfl : l.stackTraces = false) (F : zLX p s m c D C A b0 L xs) (hD : ∀ (v : zN) (w : zU × (Nat → Int64)), va_D A (zM C b v ++ zWo C a o w)) {n : Nat} {v : zN} {w : zU × (Nat → Int64)} {i : Int32} (hR : zRel n w.1 v) (hn : n < 600) (hc : cells + 2 ≤ 1060) (hs : slots + 12 ≤ 8453) (h1 : vp_in (i + 1) L) (h2 : vp_in (i + 2) L)
    (kk : ∀ (v' : zN) (w' : zU × (Nat → Int64)), zRel (n + 1) w'.1 v' → zJ p l e room_1 s m #[Value.ref b0] below meth c (cells + 2) (slots + 12) Q D (zk_Km A s) 8 (zM C b v' ++ zWo C a o w') 1130 [(0, .ref b0), (1, .ref (a 0)), (2, .ref (b 0)), (3, .ref o), (4, .int i)] []) : zJ p l e room_1 s m #[Value.ref b0] below meth c cells slots Q D (zk_Km A s) 8 (zM C b v ++ zWo C a o w) 196 [(0, .ref b0), (1, .ref (a 0)), (2, .ref (b 0)), (3, .ref o), (4, .int i)] [] := by
  obtain ⟨X, hX, hbl, hbA, hA, -⟩ := F
  obtain ⟨s1, s3⟩ := zSq_phase hR hn
  refine zj_aload_n 197 X 1 dL_law_196 rfl rfl ?_
  refine zc_i 200 (zr_V (As := []) (rest := []) (wsub := zS C a w.1) X (zc_X4_phase (l := l) (D := D) (C := C) (a := a) (u := w.1)) zw_L_84 zn_X4_phase (zcR_k rfl (by omega) (by omega)) (zcO_r (zcO_l zO_S0)) (fun H h => zP_l (zP_r h)) rfl (Nat.le_of_ble_eq_true rfl) dL_law_197) rfl ?_
  refine zj_aload_n 201 X 2 dL_law_200 rfl rfl ?_
  refine zc_ifl 204 (wc := zM C b v) (wr := zWo C a o w) (Wd := zM C b) (v := zf_X5_phase v) (mc := 0) (ms := 0) (zr_Vm (As := []) (rest := [.int (zf_X4_phase w.1)]) X (zc_X5_phase (l := l) (D := D) (C := C) (a := b) (v := v)) zw_L_87 zn_X5_phase (zcR_k rfl (by omega) (by omega)) zO_M (zD_l (hD v w)) hA rfl (Nat.le_of_ble_eq_true rfl) dL_law_201) (hD _ _) hA rfl ?_
  refine zj_icmp_eq 207 1130 X dL_law_204 (by decide) rfl (fun _ => ?_) (fun h => absurd s1 h)
  refine zj_widen (cells + 2) (slots + 12) (by omega) (by omega) ?_
  exact kk _ _ s3
set_option maxHeartbeats 4000000 in
set_option maxRecDepth 100000 in
theorem zLc_2_onTurn {p : Program} {l : Launch} {e : Env} {s : State} {m : MethodId} {below : List Frame} {meth : Method} {c : Code} {cells slots : Nat} {Q : State → Prop} {D : va_G} {C : ClassId × ClassId} {A : Nat → Prop} {b0 L : Nat} {xs : Nat → Int32} {a b : Nat → Nat} {o : Nat} (hfl : l.stackTraces = false) (F : zLX p s m c D C A b0 L xs) (hD : ∀ (v : zN) (w : zU × (Nat → Int64)), va_D A (zM C b v ++ zWo C a o w)) {n : Nat} {v : zN} {w : zU × (Nat → Int64)} {i : Int32} (hR : zRel n w.1 v) (hn : n < 600) (hc : cells + 2 ≤ 1060) (hs : slots + 12 ≤ 8453) (h1 : vp_in (i + 1) L) (h2 : vp_in (i + 2) L)
    (kk : ∀ (v' : zN) (w' : zU × (Nat → Int64)), zRel (n + 1) w'.1 v' → zJ p l e room_1 s m #[Value.ref b0] below meth c (cells + 2) (slots + 12) Q D (zk_Km A s) 8 (zM C b v' ++ zWo C a o w') 1130 [(0, .ref b0), (1, .ref (a 0)), (2, .ref (b 0)), (3, .ref o), (4, .int i)] []) : zJ p l e room_1 s m #[Value.ref b0] below meth c cells slots Q D (zk_Km A s) 8 (zM C b v ++ zWo C a o w) 209 [(0, .ref b0), (1, .ref (a 0)), (2, .ref (b 0)), (3, .ref o), (4, .int i)] [] := by
  obtain ⟨X, hX, hbl, hbA, hA, -⟩ := F
  obtain ⟨s1, s3⟩ := zSq_onTurn hR hn
  refine zj_aload_n 210 X 1 dL_law_209 rfl rfl ?_
  refine zc_i 213 (zr_V (As := []) (rest := []) (wsub := zS C a w.1) X (zc_X4_onTurn (l := l) (D := D) (C := C) (a := a) (u := w.1)) zw_L_88 zn_X4_onTurn (zcR_k rfl (by omega) (by omega)) (zcO_r (zcO_l zO_S0)) (fun H h => zP_l (zP_r h)) rfl (Nat.le_of_ble_eq_true rfl) dL_law_210) rfl ?_
  refine zj_aload_n 214 X 2 dL_law_213 rfl rfl ?_
  refine zc_ifl 217 (wc := zM C b v) (wr := zWo C a o w) (Wd := zM C b) (v := zf_X5_onTurn v) (mc := 0) (ms := 0) (zr_Vm (As := []) (rest := [.int (zf_X4_onTurn w.1)]) X (zc_X5_onTurn (l := l) (D := D) (C := C) (a := b) (v := v)) zw_L_91 zn_X5_onTurn (zcR_k rfl (by omega) (by omega)) zO_M (zD_l (hD v w)) hA rfl (Nat.le_of_ble_eq_true rfl) dL_law_214) (hD _ _) hA rfl ?_
  refine zj_icmp_eq 220 1130 X dL_law_217 (by decide) rfl (fun _ => ?_) (fun h => absurd s1 h)
  refine zj_widen (cells + 2) (slots + 12) (by omega) (by omega) ?_
  exact kk _ _ s3
set_option maxHeartbeats 4000000 in
set_option maxRecDepth 100000 in
theorem zLc_3_bid {p : Program} {l : Launch} {e : Env} {s : State} {m : MethodId} {below : List Frame} {meth : Method} {c : Code} {cells slots : Nat} {Q : State → Prop} {D : va_G} {C : ClassId × ClassId} {A : Nat → Prop} {b0 L : Nat} {xs : Nat → Int32} {a b : Nat → Nat} {o : Nat} (hfl : l.stackTraces = false) (F : zLX p s m c D C A b0 L xs) (hD : ∀ (v : zN) (w : zU × (Nat → Int64)), va_D A (zM C b v ++ zWo C a o w)) {n : Nat} {v : zN} {w : zU × (Nat → Int64)} {i : Int32} (hR : zRel n w.1 v) (hn : n < 600) (hc : cells + 2 ≤ 1060) (hs : slots + 12 ≤ 8453) (h1 : vp_in (i + 1) L) (h2 : vp_in (i + 2) L)
    (kk : ∀ (v' : zN) (w' : zU × (Nat → Int64)), zRel (n + 1) w'.1 v' → zJ p l e room_1 s m #[Value.ref b0] below meth c (cells + 2) (slots + 12) Q D (zk_Km A s) 8 (zM C b v' ++ zWo C a o w') 1130 [(0, .ref b0), (1, .ref (a 0)), (2, .ref (b 0)), (3, .ref o), (4, .int i)] []) : zJ p l e room_1 s m #[Value.ref b0] below meth c cells slots Q D (zk_Km A s) 8 (zM C b v ++ zWo C a o w) 222 [(0, .ref b0), (1, .ref (a 0)), (2, .ref (b 0)), (3, .ref o), (4, .int i)] [] := by
  obtain ⟨X, hX, hbl, hbA, hA, -⟩ := F
  obtain ⟨s1, s2, s3⟩ := zSo_bid (w := w) (p0 := (xs (i + 1).toNatClampNeg)) hR hn
  refine zj_aload_n 223 X 1 dL_law_222 rfl rfl ?_
  refine zj_aload_n 224 X 0 dL_law_223 rfl rfl ?_
  refine zj_iload 226 X 4 dL_law_224 rfl rfl ?_
  refine zj_iconst 227 X (v := 1) dL_law_226 (by decide) rfl ?_
  refine zj_iadd 228 X dL_law_227 rfl ?_
  refine zj_sld 229 X hX hbl hbA h1 dL_law_228 rfl ?_
  refine zj_aload_n 230 X 3 dL_law_229 rfl rfl ?_
  refine zc_ifr 233 (wr := zM C b v) (wc := zWo C a o w) (Wd := zWo C a o) (v := zw_bid w (xs (i + 1).toNatClampNeg)) (mc := 1) (ms := 6) (zr_Sw (n := 3) (As := [.ref (a 0), .int (xs (i + 1).toNatClampNeg), .ref o]) (rest := []) X (zc_L_bid (l := l) (D := D) (C := C) (a := a) (o := o) (w := w) (p0 := (xs (i + 1).toNatClampNeg)) hfl) (zG_t 250 (by decide +kernel) rfl) (zG_t 251 (by decide +kernel) rfl) (zG_t 0 (by decide +kernel) rfl) (zG_t 252 (by decide +kernel) rfl) ⟨by decide +kernel, by decide +kernel, by decide +kernel⟩ (zcR_k rfl (by omega) (by omega)) (zD_r (hD v w)) hA rfl (Nat.le_of_ble_eq_true rfl) dL_law_230) (hD _ _) hA rfl ?_
  refine zj_istore 235 X (lv1 := [(0, .ref b0), (1, .ref (a 0)), (2, .ref (b 0)), (3, .ref o), (4, .int i), (5, .int ((zw_bid w (xs (i + 1).toNatClampNeg)).1))]) [1, 2, 3, 4, 5, 0] dL_law_233 (by decide) rfl rfl ?_
  refine zj_aload_n 236 X 2 dL_law_235 rfl rfl ?_
  refine zj_aload_n 237 X 0 dL_law_236 rfl rfl ?_
  refine zj_iload 239 X 4 dL_law_237 rfl rfl ?_
  refine zj_iconst 240 X (v := 1) dL_law_239 (by decide) rfl ?_
  refine zj_iadd 241 X dL_law_240 rfl ?_
  refine zj_sld 242 X hX hbl hbA h1 dL_law_241 rfl ?_
  refine zc_ifl 245 (wc := zM C b v) (wr := zWo C a o (zw_bid w (xs (i + 1).toNatClampNeg)).2) (Wd := zM C b) (v := zf_X5_bid v (xs (i + 1).toNatClampNeg)) (mc := 0) (ms := 0) (zr_Vm (As := [.int (xs (i + 1).toNatClampNeg)]) (rest := []) X (zc_X5_bid (l := l) (D := D) (C := C) (a := b) (v := v) (p0 := (xs (i + 1).toNatClampNeg)) ) zw_L_94 zn_X5_bid (zcR_k rfl (by omega) (by omega)) zO_M (zD_l (hD v w)) hA rfl (Nat.le_of_ble_eq_true rfl) dL_law_242) (hD _ _) hA rfl ?_
  refine zj_istore 247 X (lv1 := [(0, .ref b0), (1, .ref (a 0)), (2, .ref (b 0)), (3, .ref o), (4, .int i), (5, .int ((zw_bid w (xs (i + 1).toNatClampNeg)).1)), (6, .int ((zf_X5_bid v (xs (i + 1).toNatClampNeg)).1))]) [1, 2, 3, 4, 5, 6, 0] dL_law_245 (by decide) rfl rfl ?_
  refine zj_aload_n 248 X 2 dL_law_247 rfl rfl ?_
  refine zc_i 251 (zr_V (As := []) (rest := []) (wsub := zM C b (zf_X5_bid v (xs (i + 1).toNatClampNeg)).2) X (zc_X5_thrown (l := l) (D := D) (C := C) (a := b) (v := (zf_X5_bid v (xs (i + 1).toNatClampNeg)).2)) zw_L_81 zn_X5_thrown (zcR_k rfl (by omega) (by omega)) (zcO_l zO_M) (fun H h => zP_l h) rfl (Nat.le_of_ble_eq_true rfl) dL_law_248) rfl ?_
  refine zj_iload 253 X 5 dL_law_251 rfl rfl ?_
  refine zj_icmp_eq 256 258 X dL_law_253 (by decide) rfl (fun _ => ?_) (fun h => absurd s1.symm h)
  refine zj_iload 260 X 5 dL_law_258 rfl rfl ?_
  refine zj_join 275 [(0, .ref b0), (1, .ref (a 0)), (2, .ref (b 0)), (3, .ref o), (4, .int i), (5, .int ((zw_bid w (xs (i + 1).toNatClampNeg)).1)), (6, .int ((zf_X5_bid v (xs (i + 1).toNatClampNeg)).1))] [] ?_ (fun J1 => ?_)
  · refine zj_goto 1130 X dL_law_275 (by decide) ?_
    refine zj_widen (cells + 2) (slots + 12) (by omega) (by omega) ?_
    refine zj_lv [0, 1, 2, 3, 4] (lv1 := [(0, .ref b0), (1, .ref (a 0)), (2, .ref (b 0)), (3, .ref o), (4, .int i)]) rfl ?_
    exact kk _ _ s3
  refine zj_if_ne 263 275 X dL_law_260 (by decide) rfl (fun _ => J1) (fun h0 => ?_)
  refine zj_aload_n 264 X 3 dL_law_263 rfl rfl ?_
  refine zj_iconst 265 X (v := 0) dL_law_264 (by decide) rfl ?_
  refine zl_out 266 X dL_law_265 rfl ?_
  refine zj_iload 268 X 6 dL_law_266 rfl rfl ?_
  refine zj_i2l 269 X dL_law_268 rfl rfl ?_
  refine zj_lcmp 270 X dL_law_269 rfl ?_
  exact zj_if_eq 273 275 X dL_law_270 (by decide) rfl (fun _ => J1) (fun h => absurd (zlc_eq (s2 h0)) h)
set_option maxHeartbeats 4000000 in
set_option maxRecDepth 100000 in
theorem zLc_4_hold {p : Program} {l : Launch} {e : Env} {s : State} {m : MethodId} {below : List Frame} {meth : Method} {c : Code} {cells slots : Nat} {Q : State → Prop} {D : va_G} {C : ClassId × ClassId} {A : Nat → Prop} {b0 L : Nat} {xs : Nat → Int32} {a b : Nat → Nat} {o : Nat} (hfl : l.stackTraces = false) (F : zLX p s m c D C A b0 L xs) (hD : ∀ (v : zN) (w : zU × (Nat → Int64)), va_D A (zM C b v ++ zWo C a o w)) {n : Nat} {v : zN} {w : zU × (Nat → Int64)} {i : Int32} (hR : zRel n w.1 v) (hn : n < 600) (hc : cells + 2 ≤ 1060) (hs : slots + 12 ≤ 8453) (h1 : vp_in (i + 1) L) (h2 : vp_in (i + 2) L)
    (kk : ∀ (v' : zN) (w' : zU × (Nat → Int64)), zRel (n + 1) w'.1 v' → zJ p l e room_1 s m #[Value.ref b0] below meth c (cells + 2) (slots + 12) Q D (zk_Km A s) 8 (zM C b v' ++ zWo C a o w') 1130 [(0, .ref b0), (1, .ref (a 0)), (2, .ref (b 0)), (3, .ref o), (4, .int i)] []) : zJ p l e room_1 s m #[Value.ref b0] below meth c cells slots Q D (zk_Km A s) 8 (zM C b v ++ zWo C a o w) 278 [(0, .ref b0), (1, .ref (a 0)), (2, .ref (b 0)), (3, .ref o), (4, .int i)] [] := by
  obtain ⟨X, hX, hbl, hbA, hA, -⟩ := F
  obtain ⟨s1, s2, s3⟩ := zSo_hold (w := w) hR hn
  refine zj_aload_n 279 X 1 dL_law_278 rfl rfl ?_
  refine zj_aload_n 280 X 3 dL_law_279 rfl rfl ?_
  refine zc_ifr 283 (wr := zM C b v) (wc := zWo C a o w) (Wd := zWo C a o) (v := zw_hold w) (mc := 1) (ms := 6) (zr_Sw (n := 2) (As := [.ref (a 0), .ref o]) (rest := []) X (zc_L_hold (l := l) (D := D) (C := C) (a := a) (o := o) (w := w) hfl) (zG_t 288 (by decide +kernel) rfl) (zG_t 289 (by decide +kernel) rfl) (zG_t 0 (by decide +kernel) rfl) (zG_t 290 (by decide +kernel) rfl) ⟨by decide +kernel, by decide +kernel, by decide +kernel⟩ (zcR_k rfl (by omega) (by omega)) (zD_r (hD v w)) hA rfl (Nat.le_of_ble_eq_true rfl) dL_law_280) (hD _ _) hA rfl ?_
  refine zj_istore 285 X (lv1 := [(0, .ref b0), (1, .ref (a 0)), (2, .ref (b 0)), (3, .ref o), (4, .int i), (5, .int ((zw_hold w).1))]) [1, 2, 3, 4, 5, 0] dL_law_283 (by decide) rfl rfl ?_
  refine zj_aload_n 286 X 2 dL_law_285 rfl rfl ?_
  refine zc_ifl 289 (wc := zM C b v) (wr := zWo C a o (zw_hold w).2) (Wd := zM C b) (v := zf_X5_hold v) (mc := 0) (ms := 0) (zr_Vm (As := []) (rest := []) X (zc_X5_hold (l := l) (D := D) (C := C) (a := b) (v := v) ) zw_L_98 zn_X5_hold (zcR_k rfl (by omega) (by omega)) zO_M (zD_l (hD v w)) hA rfl (Nat.le_of_ble_eq_true rfl) dL_law_286) (hD _ _) hA rfl ?_
  refine zj_istore 291 X (lv1 := [(0, .ref b0), (1, .ref (a 0)), (2, .ref (b 0)), (3, .ref o), (4, .int i), (5, .int ((zw_hold w).1)), (6, .int ((zf_X5_hold v).1))]) [1, 2, 3, 4, 5, 6, 0] dL_law_289 (by decide) rfl rfl ?_
  refine zj_aload_n 292 X 2 dL_law_291 rfl rfl ?_
  refine zc_i 295 (zr_V (As := []) (rest := []) (wsub := zM C b (zf_X5_hold v).2) X (zc_X5_thrown (l := l) (D := D) (C := C) (a := b) (v := (zf_X5_hold v).2)) zw_L_81 zn_X5_thrown (zcR_k rfl (by omega) (by omega)) (zcO_l zO_M) (fun H h => zP_l h) rfl (Nat.le_of_ble_eq_true rfl) dL_law_292) rfl ?_
  refine zj_iload 297 X 5 dL_law_295 rfl rfl ?_
  refine zj_icmp_eq 300 302 X dL_law_297 (by decide) rfl (fun _ => ?_) (fun h => absurd s1.symm h)
  refine zj_iload 304 X 5 dL_law_302 rfl rfl ?_
  refine zj_join 319 [(0, .ref b0), (1, .ref (a 0)), (2, .ref (b 0)), (3, .ref o), (4, .int i), (5, .int ((zw_hold w).1)), (6, .int ((zf_X5_hold v).1))] [] ?_ (fun J1 => ?_)
  · refine zj_goto 1130 X dL_law_319 (by decide) ?_
    refine zj_widen (cells + 2) (slots + 12) (by omega) (by omega) ?_
    refine zj_lv [0, 1, 2, 3, 4] (lv1 := [(0, .ref b0), (1, .ref (a 0)), (2, .ref (b 0)), (3, .ref o), (4, .int i)]) rfl ?_
    exact kk _ _ s3
  refine zj_if_ne 307 319 X dL_law_304 (by decide) rfl (fun _ => J1) (fun h0 => ?_)
  refine zj_aload_n 308 X 3 dL_law_307 rfl rfl ?_
  refine zj_iconst 309 X (v := 0) dL_law_308 (by decide) rfl ?_
  refine zl_out 310 X dL_law_309 rfl ?_
  refine zj_iload 312 X 6 dL_law_310 rfl rfl ?_
  refine zj_i2l 313 X dL_law_312 rfl rfl ?_
  refine zj_lcmp 314 X dL_law_313 rfl ?_
  exact zj_if_eq 317 319 X dL_law_314 (by decide) rfl (fun _ => J1) (fun h => absurd (zlc_eq (s2 h0)) h)
set_option maxHeartbeats 4000000 in
set_option maxRecDepth 100000 in
theorem zLc_5_pass {p : Program} {l : Launch} {e : Env} {s : State} {m : MethodId} {below : List Frame} {meth : Method} {c : Code} {cells slots : Nat} {Q : State → Prop} {D : va_G} {C : ClassId × ClassId} {A : Nat → Prop} {b0 L : Nat} {xs : Nat → Int32} {a b : Nat → Nat} {o : Nat} (hfl : l.stackTraces = false) (F : zLX p s m c D C A b0 L xs) (hD : ∀ (v : zN) (w : zU × (Nat → Int64)), va_D A (zM C b v ++ zWo C a o w)) {n : Nat} {v : zN} {w : zU × (Nat → Int64)} {i : Int32} (hR : zRel n w.1 v) (hn : n < 600) (hc : cells + 2 ≤ 1060) (hs : slots + 12 ≤ 8453) (h1 : vp_in (i + 1) L) (h2 : vp_in (i + 2) L)
    (kk : ∀ (v' : zN) (w' : zU × (Nat → Int64)), zRel (n + 1) w'.1 v' → zJ p l e room_1 s m #[Value.ref b0] below meth c (cells + 2) (slots + 12) Q D (zk_Km A s) 8 (zM C b v' ++ zWo C a o w') 1130 [(0, .ref b0), (1, .ref (a 0)), (2, .ref (b 0)), (3, .ref o), (4, .int i)] []) : zJ p l e room_1 s m #[Value.ref b0] below meth c cells slots Q D (zk_Km A s) 8 (zM C b v ++ zWo C a o w) 322 [(0, .ref b0), (1, .ref (a 0)), (2, .ref (b 0)), (3, .ref o), (4, .int i)] [] := by
  obtain ⟨X, hX, hbl, hbA, hA, -⟩ := F
  obtain ⟨s1, s2, s3⟩ := zSo_pass (w := w) hR hn
  refine zj_aload_n 323 X 1 dL_law_322 rfl rfl ?_
  refine zj_aload_n 324 X 3 dL_law_323 rfl rfl ?_
  refine zc_ifr 327 (wr := zM C b v) (wc := zWo C a o w) (Wd := zWo C a o) (v := zw_pass w) (mc := 1) (ms := 6) (zr_Sw (n := 2) (As := [.ref (a 0), .ref o]) (rest := []) X (zc_L_pass (l := l) (D := D) (C := C) (a := a) (o := o) (w := w) hfl) (zG_t 296 (by decide +kernel) rfl) (zG_t 297 (by decide +kernel) rfl) (zG_t 0 (by decide +kernel) rfl) (zG_t 298 (by decide +kernel) rfl) ⟨by decide +kernel, by decide +kernel, by decide +kernel⟩ (zcR_k rfl (by omega) (by omega)) (zD_r (hD v w)) hA rfl (Nat.le_of_ble_eq_true rfl) dL_law_324) (hD _ _) hA rfl ?_
  refine zj_istore 329 X (lv1 := [(0, .ref b0), (1, .ref (a 0)), (2, .ref (b 0)), (3, .ref o), (4, .int i), (5, .int ((zw_pass w).1))]) [1, 2, 3, 4, 5, 0] dL_law_327 (by decide) rfl rfl ?_
  refine zj_aload_n 330 X 2 dL_law_329 rfl rfl ?_
  refine zc_ifl 333 (wc := zM C b v) (wr := zWo C a o (zw_pass w).2) (Wd := zM C b) (v := zf_X5_pass v) (mc := 0) (ms := 0) (zr_Vm (As := []) (rest := []) X (zc_X5_pass (l := l) (D := D) (C := C) (a := b) (v := v) ) zw_L_101 zn_X5_pass (zcR_k rfl (by omega) (by omega)) zO_M (zD_l (hD v w)) hA rfl (Nat.le_of_ble_eq_true rfl) dL_law_330) (hD _ _) hA rfl ?_
  refine zj_istore 335 X (lv1 := [(0, .ref b0), (1, .ref (a 0)), (2, .ref (b 0)), (3, .ref o), (4, .int i), (5, .int ((zw_pass w).1)), (6, .int ((zf_X5_pass v).1))]) [1, 2, 3, 4, 5, 6, 0] dL_law_333 (by decide) rfl rfl ?_
  refine zj_aload_n 336 X 2 dL_law_335 rfl rfl ?_
  refine zc_i 339 (zr_V (As := []) (rest := []) (wsub := zM C b (zf_X5_pass v).2) X (zc_X5_thrown (l := l) (D := D) (C := C) (a := b) (v := (zf_X5_pass v).2)) zw_L_81 zn_X5_thrown (zcR_k rfl (by omega) (by omega)) (zcO_l zO_M) (fun H h => zP_l h) rfl (Nat.le_of_ble_eq_true rfl) dL_law_336) rfl ?_
  refine zj_iload 341 X 5 dL_law_339 rfl rfl ?_
  refine zj_icmp_eq 344 346 X dL_law_341 (by decide) rfl (fun _ => ?_) (fun h => absurd s1.symm h)
  refine zj_iload 348 X 5 dL_law_346 rfl rfl ?_
  refine zj_join 363 [(0, .ref b0), (1, .ref (a 0)), (2, .ref (b 0)), (3, .ref o), (4, .int i), (5, .int ((zw_pass w).1)), (6, .int ((zf_X5_pass v).1))] [] ?_ (fun J1 => ?_)
  · refine zj_goto 1130 X dL_law_363 (by decide) ?_
    refine zj_widen (cells + 2) (slots + 12) (by omega) (by omega) ?_
    refine zj_lv [0, 1, 2, 3, 4] (lv1 := [(0, .ref b0), (1, .ref (a 0)), (2, .ref (b 0)), (3, .ref o), (4, .int i)]) rfl ?_
    exact kk _ _ s3
  refine zj_if_ne 351 363 X dL_law_348 (by decide) rfl (fun _ => J1) (fun h0 => ?_)
  refine zj_aload_n 352 X 3 dL_law_351 rfl rfl ?_
  refine zj_iconst 353 X (v := 0) dL_law_352 (by decide) rfl ?_
  refine zl_out 354 X dL_law_353 rfl ?_
  refine zj_iload 356 X 6 dL_law_354 rfl rfl ?_
  refine zj_i2l 357 X dL_law_356 rfl rfl ?_
  refine zj_lcmp 358 X dL_law_357 rfl ?_
  exact zj_if_eq 361 363 X dL_law_358 (by decide) rfl (fun _ => J1) (fun h => absurd (zlc_eq (s2 h0)) h)
set_option maxHeartbeats 4000000 in
set_option maxRecDepth 100000 in
theorem zLc_6_latestBid {p : Program} {l : Launch} {e : Env} {s : State} {m : MethodId} {below : List Frame} {meth : Method} {c : Code} {cells slots : Nat} {Q : State → Prop} {D : va_G} {C : ClassId × ClassId} {A : Nat → Prop} {b0 L : Nat} {xs : Nat → Int32} {a b : Nat → Nat} {o : Nat} (hfl : l.stackTraces = false) (F : zLX p s m c D C A b0 L xs) (hD : ∀ (v : zN) (w : zU × (Nat → Int64)), va_D A (zM C b v ++ zWo C a o w)) {n : Nat} {v : zN} {w : zU × (Nat → Int64)} {i : Int32} (hR : zRel n w.1 v) (hn : n < 600) (hc : cells + 2 ≤ 1060) (hs : slots + 12 ≤ 8453) (h1 : vp_in (i + 1) L) (h2 : vp_in (i + 2) L)
    (kk : ∀ (v' : zN) (w' : zU × (Nat → Int64)), zRel (n + 1) w'.1 v' → zJ p l e room_1 s m #[Value.ref b0] below meth c (cells + 2) (slots + 12) Q D (zk_Km A s) 8 (zM C b v' ++ zWo C a o w') 1130 [(0, .ref b0), (1, .ref (a 0)), (2, .ref (b 0)), (3, .ref o), (4, .int i)] []) : zJ p l e room_1 s m #[Value.ref b0] below meth c cells slots Q D (zk_Km A s) 8 (zM C b v ++ zWo C a o w) 366 [(0, .ref b0), (1, .ref (a 0)), (2, .ref (b 0)), (3, .ref o), (4, .int i)] [] := by
  obtain ⟨X, hX, hbl, hbA, hA, -⟩ := F
  obtain ⟨s1, s3⟩ := zSq_latestBid hR hn
  refine zj_aload_n 367 X 1 dL_law_366 rfl rfl ?_
  refine zc_i 370 (zr_V (As := []) (rest := []) (wsub := zS C a w.1) X (zc_X4_latestBid (l := l) (D := D) (C := C) (a := a) (u := w.1)) zw_L_102 zn_X4_latestBid (zcR_k rfl (by omega) (by omega)) (zcO_r (zcO_l zO_S0)) (fun H h => zP_l (zP_r h)) rfl (Nat.le_of_ble_eq_true rfl) dL_law_367) rfl ?_
  refine zj_aload_n 371 X 2 dL_law_370 rfl rfl ?_
  refine zc_ifl 374 (wc := zM C b v) (wr := zWo C a o w) (Wd := zM C b) (v := zf_X5_latestBid v) (mc := 0) (ms := 0) (zr_Vm (As := []) (rest := [.int (zf_X4_latestBid w.1)]) X (zc_X5_latestBid (l := l) (D := D) (C := C) (a := b) (v := v)) zw_L_105 zn_X5_latestBid (zcR_k rfl (by omega) (by omega)) zO_M (zD_l (hD v w)) hA rfl (Nat.le_of_ble_eq_true rfl) dL_law_371) (hD _ _) hA rfl ?_
  refine zj_icmp_eq 377 1130 X dL_law_374 (by decide) rfl (fun _ => ?_) (fun h => absurd s1 h)
  refine zj_widen (cells + 2) (slots + 12) (by omega) (by omega) ?_
  exact kk _ _ s3
set_option maxHeartbeats 4000000 in
set_option maxRecDepth 100000 in
theorem zLc_7_nextBid {p : Program} {l : Launch} {e : Env} {s : State} {m : MethodId} {below : List Frame} {meth : Method} {c : Code} {cells slots : Nat} {Q : State → Prop} {D : va_G} {C : ClassId × ClassId} {A : Nat → Prop} {b0 L : Nat} {xs : Nat → Int32} {a b : Nat → Nat} {o : Nat} (hfl : l.stackTraces = false) (F : zLX p s m c D C A b0 L xs) (hD : ∀ (v : zN) (w : zU × (Nat → Int64)), va_D A (zM C b v ++ zWo C a o w)) {n : Nat} {v : zN} {w : zU × (Nat → Int64)} {i : Int32} (hR : zRel n w.1 v) (hn : n < 600) (hc : cells + 2 ≤ 1060) (hs : slots + 12 ≤ 8453) (h1 : vp_in (i + 1) L) (h2 : vp_in (i + 2) L)
    (kk : ∀ (v' : zN) (w' : zU × (Nat → Int64)), zRel (n + 1) w'.1 v' → zJ p l e room_1 s m #[Value.ref b0] below meth c (cells + 2) (slots + 12) Q D (zk_Km A s) 8 (zM C b v' ++ zWo C a o w') 1130 [(0, .ref b0), (1, .ref (a 0)), (2, .ref (b 0)), (3, .ref o), (4, .int i)] []) : zJ p l e room_1 s m #[Value.ref b0] below meth c cells slots Q D (zk_Km A s) 8 (zM C b v ++ zWo C a o w) 379 [(0, .ref b0), (1, .ref (a 0)), (2, .ref (b 0)), (3, .ref o), (4, .int i)] [] := by
  obtain ⟨X, hX, hbl, hbA, hA, -⟩ := F
  obtain ⟨s1, s2, s3⟩ := zSo_nextBid (w := w) (p0 := (xs (i + 1).toNatClampNeg)) hR hn
  refine zj_aload_n 380 X 1 dL_law_379 rfl rfl ?_
  refine zj_aload_n 381 X 0 dL_law_380 rfl rfl ?_
  refine zj_iload 383 X 4 dL_law_381 rfl rfl ?_
  refine zj_iconst 384 X (v := 1) dL_law_383 (by decide) rfl ?_
  refine zj_iadd 385 X dL_law_384 rfl ?_
  refine zj_sld 386 X hX hbl hbA h1 dL_law_385 rfl ?_
  refine zj_aload_n 387 X 3 dL_law_386 rfl rfl ?_
  refine zc_ifr 390 (wr := zM C b v) (wc := zWo C a o w) (Wd := zWo C a o) (v := zw_nextBid w (xs (i + 1).toNatClampNeg)) (mc := 1) (ms := 6) (zr_Sw (n := 3) (As := [.ref (a 0), .int (xs (i + 1).toNatClampNeg), .ref o]) (rest := []) X (zc_L_nextBid (l := l) (D := D) (C := C) (a := a) (o := o) (w := w) (p0 := (xs (i + 1).toNatClampNeg)) hfl) (zG_t 312 (by decide +kernel) rfl) (zG_t 313 (by decide +kernel) rfl) (zG_t 0 (by decide +kernel) rfl) (zG_t 314 (by decide +kernel) rfl) ⟨by decide +kernel, by decide +kernel, by decide +kernel⟩ (zcR_k rfl (by omega) (by omega)) (zD_r (hD v w)) hA rfl (Nat.le_of_ble_eq_true rfl) dL_law_387) (hD _ _) hA rfl ?_
  refine zj_istore 392 X (lv1 := [(0, .ref b0), (1, .ref (a 0)), (2, .ref (b 0)), (3, .ref o), (4, .int i), (5, .int ((zw_nextBid w (xs (i + 1).toNatClampNeg)).1))]) [1, 2, 3, 4, 5, 0] dL_law_390 (by decide) rfl rfl ?_
  refine zj_aload_n 393 X 2 dL_law_392 rfl rfl ?_
  refine zj_aload_n 394 X 0 dL_law_393 rfl rfl ?_
  refine zj_iload 396 X 4 dL_law_394 rfl rfl ?_
  refine zj_iconst 397 X (v := 1) dL_law_396 (by decide) rfl ?_
  refine zj_iadd 398 X dL_law_397 rfl ?_
  refine zj_sld 399 X hX hbl hbA h1 dL_law_398 rfl ?_
  refine zc_ifl 402 (wc := zM C b v) (wr := zWo C a o (zw_nextBid w (xs (i + 1).toNatClampNeg)).2) (Wd := zM C b) (v := zf_X5_nextBid v (xs (i + 1).toNatClampNeg)) (mc := 0) (ms := 0) (zr_Vm (As := [.int (xs (i + 1).toNatClampNeg)]) (rest := []) X (zc_X5_nextBid (l := l) (D := D) (C := C) (a := b) (v := v) (p0 := (xs (i + 1).toNatClampNeg)) ) zw_L_108 zn_X5_nextBid (zcR_k rfl (by omega) (by omega)) zO_M (zD_l (hD v w)) hA rfl (Nat.le_of_ble_eq_true rfl) dL_law_399) (hD _ _) hA rfl ?_
  refine zj_istore 404 X (lv1 := [(0, .ref b0), (1, .ref (a 0)), (2, .ref (b 0)), (3, .ref o), (4, .int i), (5, .int ((zw_nextBid w (xs (i + 1).toNatClampNeg)).1)), (6, .int ((zf_X5_nextBid v (xs (i + 1).toNatClampNeg)).1))]) [1, 2, 3, 4, 5, 6, 0] dL_law_402 (by decide) rfl rfl ?_
  refine zj_aload_n 405 X 2 dL_law_404 rfl rfl ?_
  refine zc_i 408 (zr_V (As := []) (rest := []) (wsub := zM C b (zf_X5_nextBid v (xs (i + 1).toNatClampNeg)).2) X (zc_X5_thrown (l := l) (D := D) (C := C) (a := b) (v := (zf_X5_nextBid v (xs (i + 1).toNatClampNeg)).2)) zw_L_81 zn_X5_thrown (zcR_k rfl (by omega) (by omega)) (zcO_l zO_M) (fun H h => zP_l h) rfl (Nat.le_of_ble_eq_true rfl) dL_law_405) rfl ?_
  refine zj_iload 410 X 5 dL_law_408 rfl rfl ?_
  refine zj_icmp_eq 413 415 X dL_law_410 (by decide) rfl (fun _ => ?_) (fun h => absurd s1.symm h)
  refine zj_iload 417 X 5 dL_law_415 rfl rfl ?_
  refine zj_join 432 [(0, .ref b0), (1, .ref (a 0)), (2, .ref (b 0)), (3, .ref o), (4, .int i), (5, .int ((zw_nextBid w (xs (i + 1).toNatClampNeg)).1)), (6, .int ((zf_X5_nextBid v (xs (i + 1).toNatClampNeg)).1))] [] ?_ (fun J1 => ?_)
  · refine zj_goto 1130 X dL_law_432 (by decide) ?_
    refine zj_widen (cells + 2) (slots + 12) (by omega) (by omega) ?_
    refine zj_lv [0, 1, 2, 3, 4] (lv1 := [(0, .ref b0), (1, .ref (a 0)), (2, .ref (b 0)), (3, .ref o), (4, .int i)]) rfl ?_
    exact kk _ _ s3
  refine zj_if_ne 420 432 X dL_law_417 (by decide) rfl (fun _ => J1) (fun h0 => ?_)
  refine zj_aload_n 421 X 3 dL_law_420 rfl rfl ?_
  refine zj_iconst 422 X (v := 0) dL_law_421 (by decide) rfl ?_
  refine zl_out 423 X dL_law_422 rfl ?_
  refine zj_iload 425 X 6 dL_law_423 rfl rfl ?_
  refine zj_i2l 426 X dL_law_425 rfl rfl ?_
  refine zj_lcmp 427 X dL_law_426 rfl ?_
  exact zj_if_eq 430 432 X dL_law_427 (by decide) rfl (fun _ => J1) (fun h => absurd (zlc_eq (s2 h0)) h)
set_option maxHeartbeats 4000000 in
set_option maxRecDepth 100000 in
theorem zLc_8_declarer {p : Program} {l : Launch} {e : Env} {s : State} {m : MethodId} {below : List Frame} {meth : Method} {c : Code} {cells slots : Nat} {Q : State → Prop} {D : va_G} {C : ClassId × ClassId} {A : Nat → Prop} {b0 L : Nat} {xs : Nat → Int32} {a b : Nat → Nat} {o : Nat} (hfl : l.stackTraces = false) (F : zLX p s m c D C A b0 L xs) (hD : ∀ (v : zN) (w : zU × (Nat → Int64)), va_D A (zM C b v ++ zWo C a o w)) {n : Nat} {v : zN} {w : zU × (Nat → Int64)} {i : Int32} (hR : zRel n w.1 v) (hn : n < 600) (hc : cells + 2 ≤ 1060) (hs : slots + 12 ≤ 8453) (h1 : vp_in (i + 1) L) (h2 : vp_in (i + 2) L)
    (kk : ∀ (v' : zN) (w' : zU × (Nat → Int64)), zRel (n + 1) w'.1 v' → zJ p l e room_1 s m #[Value.ref b0] below meth c (cells + 2) (slots + 12) Q D (zk_Km A s) 8 (zM C b v' ++ zWo C a o w') 1130 [(0, .ref b0), (1, .ref (a 0)), (2, .ref (b 0)), (3, .ref o), (4, .int i)] []) : zJ p l e room_1 s m #[Value.ref b0] below meth c cells slots Q D (zk_Km A s) 8 (zM C b v ++ zWo C a o w) 435 [(0, .ref b0), (1, .ref (a 0)), (2, .ref (b 0)), (3, .ref o), (4, .int i)] [] := by
  obtain ⟨X, hX, hbl, hbA, hA, -⟩ := F
  obtain ⟨s1, s3⟩ := zSq_declarer hR hn
  refine zj_aload_n 436 X 1 dL_law_435 rfl rfl ?_
  refine zc_i 439 (zr_V (As := []) (rest := []) (wsub := zS C a w.1) X (zc_X4_declarer (l := l) (D := D) (C := C) (a := a) (u := w.1)) zw_L_109 zn_X4_declarer (zcR_k rfl (by omega) (by omega)) (zcO_r (zcO_l zO_S0)) (fun H h => zP_l (zP_r h)) rfl (Nat.le_of_ble_eq_true rfl) dL_law_436) rfl ?_
  refine zj_aload_n 440 X 2 dL_law_439 rfl rfl ?_
  refine zc_ifl 443 (wc := zM C b v) (wr := zWo C a o w) (Wd := zM C b) (v := zf_X5_declarer v) (mc := 0) (ms := 0) (zr_Vm (As := []) (rest := [.int (zf_X4_declarer w.1)]) X (zc_X5_declarer (l := l) (D := D) (C := C) (a := b) (v := v)) zw_L_112 zn_X5_declarer (zcR_k rfl (by omega) (by omega)) zO_M (zD_l (hD v w)) hA rfl (Nat.le_of_ble_eq_true rfl) dL_law_440) (hD _ _) hA rfl ?_
  refine zj_icmp_eq 446 1130 X dL_law_443 (by decide) rfl (fun _ => ?_) (fun h => absurd s1 h)
  refine zj_widen (cells + 2) (slots + 12) (by omega) (by omega) ?_
  exact kk _ _ s3
set_option maxHeartbeats 4000000 in
set_option maxRecDepth 100000 in
theorem zLc_9_takeSkat {p : Program} {l : Launch} {e : Env} {s : State} {m : MethodId} {below : List Frame} {meth : Method} {c : Code} {cells slots : Nat} {Q : State → Prop} {D : va_G} {C : ClassId × ClassId} {A : Nat → Prop} {b0 L : Nat} {xs : Nat → Int32} {a b : Nat → Nat} {o : Nat} (hfl : l.stackTraces = false) (F : zLX p s m c D C A b0 L xs) (hD : ∀ (v : zN) (w : zU × (Nat → Int64)), va_D A (zM C b v ++ zWo C a o w)) {n : Nat} {v : zN} {w : zU × (Nat → Int64)} {i : Int32} (hR : zRel n w.1 v) (hn : n < 600) (hc : cells + 2 ≤ 1060) (hs : slots + 12 ≤ 8453) (h1 : vp_in (i + 1) L) (h2 : vp_in (i + 2) L)
    (kk : ∀ (v' : zN) (w' : zU × (Nat → Int64)), zRel (n + 1) w'.1 v' → zJ p l e room_1 s m #[Value.ref b0] below meth c (cells + 2) (slots + 12) Q D (zk_Km A s) 8 (zM C b v' ++ zWo C a o w') 1130 [(0, .ref b0), (1, .ref (a 0)), (2, .ref (b 0)), (3, .ref o), (4, .int i)] []) : zJ p l e room_1 s m #[Value.ref b0] below meth c cells slots Q D (zk_Km A s) 8 (zM C b v ++ zWo C a o w) 448 [(0, .ref b0), (1, .ref (a 0)), (2, .ref (b 0)), (3, .ref o), (4, .int i)] [] := by
  obtain ⟨X, hX, hbl, hbA, hA, -⟩ := F
  obtain ⟨s1, s2, s3⟩ := zSo_takeSkat (w := w) hR hn
  refine zj_aload_n 449 X 1 dL_law_448 rfl rfl ?_
  refine zj_aload_n 450 X 3 dL_law_449 rfl rfl ?_
  refine zc_ifr 453 (wr := zM C b v) (wc := zWo C a o w) (Wd := zWo C a o) (v := zw_takeSkat w) (mc := 1) (ms := 6) (zr_Sw (n := 2) (As := [.ref (a 0), .ref o]) (rest := []) X (zc_L_takeSkat (l := l) (D := D) (C := C) (a := a) (o := o) (w := w) hfl) (zG_t 324 (by decide +kernel) rfl) (zG_t 325 (by decide +kernel) rfl) (zG_t 0 (by decide +kernel) rfl) (zG_t 326 (by decide +kernel) rfl) ⟨by decide +kernel, by decide +kernel, by decide +kernel⟩ (zcR_k rfl (by omega) (by omega)) (zD_r (hD v w)) hA rfl (Nat.le_of_ble_eq_true rfl) dL_law_450) (hD _ _) hA rfl ?_
  refine zj_istore 455 X (lv1 := [(0, .ref b0), (1, .ref (a 0)), (2, .ref (b 0)), (3, .ref o), (4, .int i), (5, .int ((zw_takeSkat w).1))]) [1, 2, 3, 4, 5, 0] dL_law_453 (by decide) rfl rfl ?_
  refine zj_aload_n 456 X 2 dL_law_455 rfl rfl ?_
  refine zc_lfl 459 (wc := zM C b v) (wr := zWo C a o (zw_takeSkat w).2) (Wd := zM C b) (v := zf_X5_takeSkat v) (mc := 0) (ms := 0) (zr_Vm (As := []) (rest := []) X (zc_X5_takeSkat (l := l) (D := D) (C := C) (a := b) (v := v) (hE := fun h => zRel_E2 hR h)) zw_L_115 zn_X5_takeSkat (zcR_k rfl (by omega) (by omega)) zO_M (zD_l (hD v w)) hA rfl (Nat.le_of_ble_eq_true rfl) dL_law_456) (hD _ _) hA rfl ?_
  refine zj_lstore 461 X (lv1 := [(0, .ref b0), (1, .ref (a 0)), (2, .ref (b 0)), (3, .ref o), (4, .int i), (5, .int ((zw_takeSkat w).1)), (6, .long ((zf_X5_takeSkat v).1))]) [1, 2, 3, 4, 5, 6, 0] dL_law_459 (by decide) rfl rfl ?_
  refine zj_aload_n 462 X 2 dL_law_461 rfl rfl ?_
  refine zc_i 465 (zr_V (As := []) (rest := []) (wsub := zM C b (zf_X5_takeSkat v).2) X (zc_X5_thrown (l := l) (D := D) (C := C) (a := b) (v := (zf_X5_takeSkat v).2)) zw_L_81 zn_X5_thrown (zcR_k rfl (by omega) (by omega)) (zcO_l zO_M) (fun H h => zP_l h) rfl (Nat.le_of_ble_eq_true rfl) dL_law_462) rfl ?_
  refine zj_iload 467 X 5 dL_law_465 rfl rfl ?_
  refine zj_icmp_eq 470 472 X dL_law_467 (by decide) rfl (fun _ => ?_) (fun h => absurd s1.symm h)
  refine zj_iload 474 X 5 dL_law_472 rfl rfl ?_
  refine zj_join 488 [(0, .ref b0), (1, .ref (a 0)), (2, .ref (b 0)), (3, .ref o), (4, .int i), (5, .int ((zw_takeSkat w).1)), (6, .long ((zf_X5_takeSkat v).1))] [] ?_ (fun J1 => ?_)
  · refine zj_goto 1130 X dL_law_488 (by decide) ?_
    refine zj_widen (cells + 2) (slots + 12) (by omega) (by omega) ?_
    refine zj_lv [0, 1, 2, 3, 4] (lv1 := [(0, .ref b0), (1, .ref (a 0)), (2, .ref (b 0)), (3, .ref o), (4, .int i)]) rfl ?_
    exact kk _ _ s3
  refine zj_if_ne 477 488 X dL_law_474 (by decide) rfl (fun _ => J1) (fun h0 => ?_)
  refine zj_aload_n 478 X 3 dL_law_477 rfl rfl ?_
  refine zj_iconst 479 X (v := 0) dL_law_478 (by decide) rfl ?_
  refine zl_out 480 X dL_law_479 rfl ?_
  refine zj_lload 482 X 6 dL_law_480 rfl rfl ?_
  refine zj_lcmp 483 X dL_law_482 rfl ?_
  exact zj_if_eq 486 488 X dL_law_483 (by decide) rfl (fun _ => J1) (fun h => absurd (zlc_eq (s2 h0)) h)
set_option maxHeartbeats 4000000 in
set_option maxRecDepth 100000 in
theorem zLc_10_putAway {p : Program} {l : Launch} {e : Env} {s : State} {m : MethodId} {below : List Frame} {meth : Method} {c : Code} {cells slots : Nat} {Q : State → Prop} {D : va_G} {C : ClassId × ClassId} {A : Nat → Prop} {b0 L : Nat} {xs : Nat → Int32} {a b : Nat → Nat} {o : Nat} (hfl : l.stackTraces = false) (F : zLX p s m c D C A b0 L xs) (hD : ∀ (v : zN) (w : zU × (Nat → Int64)), va_D A (zM C b v ++ zWo C a o w)) {n : Nat} {v : zN} {w : zU × (Nat → Int64)} {i : Int32} (hR : zRel n w.1 v) (hn : n < 600) (hc : cells + 2 ≤ 1060) (hs : slots + 12 ≤ 8453) (h1 : vp_in (i + 1) L) (h2 : vp_in (i + 2) L)
    (kk : ∀ (v' : zN) (w' : zU × (Nat → Int64)), zRel (n + 1) w'.1 v' → zJ p l e room_1 s m #[Value.ref b0] below meth c (cells + 2) (slots + 12) Q D (zk_Km A s) 8 (zM C b v' ++ zWo C a o w') 1130 [(0, .ref b0), (1, .ref (a 0)), (2, .ref (b 0)), (3, .ref o), (4, .int i)] []) : zJ p l e room_1 s m #[Value.ref b0] below meth c cells slots Q D (zk_Km A s) 8 (zM C b v ++ zWo C a o w) 491 [(0, .ref b0), (1, .ref (a 0)), (2, .ref (b 0)), (3, .ref o), (4, .int i)] [] := by
  obtain ⟨X, hX, hbl, hbA, hA, -⟩ := F
  obtain ⟨s1, s2, s3⟩ := zSo_putAway (w := w) (p0 := (xs (i + 1).toNatClampNeg)) (p1 := (xs (i + 2).toNatClampNeg)) hR hn
  refine zj_aload_n 492 X 1 dL_law_491 rfl rfl ?_
  refine zj_aload_n 493 X 0 dL_law_492 rfl rfl ?_
  refine zj_iload 495 X 4 dL_law_493 rfl rfl ?_
  refine zj_iconst 496 X (v := 1) dL_law_495 (by decide) rfl ?_
  refine zj_iadd 497 X dL_law_496 rfl ?_
  refine zj_sld 498 X hX hbl hbA h1 dL_law_497 rfl ?_
  refine zj_aload_n 499 X 0 dL_law_498 rfl rfl ?_
  refine zj_iload 501 X 4 dL_law_499 rfl rfl ?_
  refine zj_iconst 502 X (v := 2) dL_law_501 (by decide) rfl ?_
  refine zj_iadd 503 X dL_law_502 rfl ?_
  refine zj_sld 504 X hX hbl hbA h2 dL_law_503 rfl ?_
  refine zj_aload_n 505 X 3 dL_law_504 rfl rfl ?_
  refine zc_ifr 508 (wr := zM C b v) (wc := zWo C a o w) (Wd := zWo C a o) (v := zw_putAway w (xs (i + 1).toNatClampNeg) (xs (i + 2).toNatClampNeg)) (mc := 1) (ms := 6) (zr_Sw (n := 4) (As := [.ref (a 0), .int (xs (i + 1).toNatClampNeg), .int (xs (i + 2).toNatClampNeg), .ref o]) (rest := []) X (zc_L_putAway (l := l) (D := D) (C := C) (a := a) (o := o) (w := w) (p0 := (xs (i + 1).toNatClampNeg)) (p1 := (xs (i + 2).toNatClampNeg)) hfl) (zG_t 332 (by decide +kernel) rfl) (zG_t 333 (by decide +kernel) rfl) (zG_t 0 (by decide +kernel) rfl) (zG_t 334 (by decide +kernel) rfl) ⟨by decide +kernel, by decide +kernel, by decide +kernel⟩ (zcR_k rfl (by omega) (by omega)) (zD_r (hD v w)) hA rfl (Nat.le_of_ble_eq_true rfl) dL_law_505) (hD _ _) hA rfl ?_
  refine zj_istore 510 X (lv1 := [(0, .ref b0), (1, .ref (a 0)), (2, .ref (b 0)), (3, .ref o), (4, .int i), (5, .int ((zw_putAway w (xs (i + 1).toNatClampNeg) (xs (i + 2).toNatClampNeg)).1))]) [1, 2, 3, 4, 5, 0] dL_law_508 (by decide) rfl rfl ?_
  refine zj_aload_n 511 X 2 dL_law_510 rfl rfl ?_
  refine zj_aload_n 512 X 0 dL_law_511 rfl rfl ?_
  refine zj_iload 514 X 4 dL_law_512 rfl rfl ?_
  refine zj_iconst 515 X (v := 1) dL_law_514 (by decide) rfl ?_
  refine zj_iadd 516 X dL_law_515 rfl ?_
  refine zj_sld 517 X hX hbl hbA h1 dL_law_516 rfl ?_
  refine zj_aload_n 518 X 0 dL_law_517 rfl rfl ?_
  refine zj_iload 520 X 4 dL_law_518 rfl rfl ?_
  refine zj_iconst 521 X (v := 2) dL_law_520 (by decide) rfl ?_
  refine zj_iadd 522 X dL_law_521 rfl ?_
  refine zj_sld 523 X hX hbl hbA h2 dL_law_522 rfl ?_
  refine zc_ifl 526 (wc := zM C b v) (wr := zWo C a o (zw_putAway w (xs (i + 1).toNatClampNeg) (xs (i + 2).toNatClampNeg)).2) (Wd := zM C b) (v := zf_X5_putAway v (xs (i + 1).toNatClampNeg) (xs (i + 2).toNatClampNeg)) (mc := 0) (ms := 0) (zr_Vm (As := [.int (xs (i + 1).toNatClampNeg), .int (xs (i + 2).toNatClampNeg)]) (rest := []) X (zc_X5_putAway (l := l) (D := D) (C := C) (a := b) (v := v) (p0 := (xs (i + 1).toNatClampNeg)) (p1 := (xs (i + 2).toNatClampNeg)) (hT := zRel_T hR)) zw_L_119 zn_X5_putAway (zcR_k rfl (by omega) (by omega)) zO_M (zD_l (hD v w)) hA rfl (Nat.le_of_ble_eq_true rfl) dL_law_523) (hD _ _) hA rfl ?_
  refine zj_istore 528 X (lv1 := [(0, .ref b0), (1, .ref (a 0)), (2, .ref (b 0)), (3, .ref o), (4, .int i), (5, .int ((zw_putAway w (xs (i + 1).toNatClampNeg) (xs (i + 2).toNatClampNeg)).1)), (6, .int ((zf_X5_putAway v (xs (i + 1).toNatClampNeg) (xs (i + 2).toNatClampNeg)).1))]) [1, 2, 3, 4, 5, 6, 0] dL_law_526 (by decide) rfl rfl ?_
  refine zj_aload_n 529 X 2 dL_law_528 rfl rfl ?_
  refine zc_i 532 (zr_V (As := []) (rest := []) (wsub := zM C b (zf_X5_putAway v (xs (i + 1).toNatClampNeg) (xs (i + 2).toNatClampNeg)).2) X (zc_X5_thrown (l := l) (D := D) (C := C) (a := b) (v := (zf_X5_putAway v (xs (i + 1).toNatClampNeg) (xs (i + 2).toNatClampNeg)).2)) zw_L_81 zn_X5_thrown (zcR_k rfl (by omega) (by omega)) (zcO_l zO_M) (fun H h => zP_l h) rfl (Nat.le_of_ble_eq_true rfl) dL_law_529) rfl ?_
  refine zj_iload 534 X 5 dL_law_532 rfl rfl ?_
  refine zj_icmp_eq 537 539 X dL_law_534 (by decide) rfl (fun _ => ?_) (fun h => absurd s1.symm h)
  refine zj_iload 541 X 5 dL_law_539 rfl rfl ?_
  refine zj_join 556 [(0, .ref b0), (1, .ref (a 0)), (2, .ref (b 0)), (3, .ref o), (4, .int i), (5, .int ((zw_putAway w (xs (i + 1).toNatClampNeg) (xs (i + 2).toNatClampNeg)).1)), (6, .int ((zf_X5_putAway v (xs (i + 1).toNatClampNeg) (xs (i + 2).toNatClampNeg)).1))] [] ?_ (fun J1 => ?_)
  · refine zj_goto 1130 X dL_law_556 (by decide) ?_
    refine zj_widen (cells + 2) (slots + 12) (by omega) (by omega) ?_
    refine zj_lv [0, 1, 2, 3, 4] (lv1 := [(0, .ref b0), (1, .ref (a 0)), (2, .ref (b 0)), (3, .ref o), (4, .int i)]) rfl ?_
    exact kk _ _ s3
  refine zj_if_ne 544 556 X dL_law_541 (by decide) rfl (fun _ => J1) (fun h0 => ?_)
  refine zj_aload_n 545 X 3 dL_law_544 rfl rfl ?_
  refine zj_iconst 546 X (v := 0) dL_law_545 (by decide) rfl ?_
  refine zl_out 547 X dL_law_546 rfl ?_
  refine zj_iload 549 X 6 dL_law_547 rfl rfl ?_
  refine zj_i2l 550 X dL_law_549 rfl rfl ?_
  refine zj_lcmp 551 X dL_law_550 rfl ?_
  exact zj_if_eq 554 556 X dL_law_551 (by decide) rfl (fun _ => J1) (fun h => absurd (zlc_eq (s2 h0)) h)
set_option maxHeartbeats 4000000 in
set_option maxRecDepth 100000 in
theorem zLc_11_announce {p : Program} {l : Launch} {e : Env} {s : State} {m : MethodId} {below : List Frame} {meth : Method} {c : Code} {cells slots : Nat} {Q : State → Prop} {D : va_G} {C : ClassId × ClassId} {A : Nat → Prop} {b0 L : Nat} {xs : Nat → Int32} {a b : Nat → Nat} {o : Nat} (hfl : l.stackTraces = false) (F : zLX p s m c D C A b0 L xs) (hD : ∀ (v : zN) (w : zU × (Nat → Int64)), va_D A (zM C b v ++ zWo C a o w)) {n : Nat} {v : zN} {w : zU × (Nat → Int64)} {i : Int32} (hR : zRel n w.1 v) (hn : n < 600) (hc : cells + 2 ≤ 1060) (hs : slots + 12 ≤ 8453) (h1 : vp_in (i + 1) L) (h2 : vp_in (i + 2) L)
    (kk : ∀ (v' : zN) (w' : zU × (Nat → Int64)), zRel (n + 1) w'.1 v' → zJ p l e room_1 s m #[Value.ref b0] below meth c (cells + 2) (slots + 12) Q D (zk_Km A s) 8 (zM C b v' ++ zWo C a o w') 1130 [(0, .ref b0), (1, .ref (a 0)), (2, .ref (b 0)), (3, .ref o), (4, .int i)] []) : zJ p l e room_1 s m #[Value.ref b0] below meth c cells slots Q D (zk_Km A s) 8 (zM C b v ++ zWo C a o w) 559 [(0, .ref b0), (1, .ref (a 0)), (2, .ref (b 0)), (3, .ref o), (4, .int i)] [] := by
  obtain ⟨X, hX, hbl, hbA, hA, -⟩ := F
  obtain ⟨s1, s2, s3⟩ := zSo_announce (w := w) (p0 := (xs (i + 1).toNatClampNeg)) (p1 := (xs (i + 2).toNatClampNeg)) hR hn
  refine zj_aload_n 560 X 1 dL_law_559 rfl rfl ?_
  refine zj_aload_n 561 X 0 dL_law_560 rfl rfl ?_
  refine zj_iload 563 X 4 dL_law_561 rfl rfl ?_
  refine zj_iconst 564 X (v := 1) dL_law_563 (by decide) rfl ?_
  refine zj_iadd 565 X dL_law_564 rfl ?_
  refine zj_sld 566 X hX hbl hbA h1 dL_law_565 rfl ?_
  refine zj_aload_n 567 X 0 dL_law_566 rfl rfl ?_
  refine zj_iload 569 X 4 dL_law_567 rfl rfl ?_
  refine zj_iconst 570 X (v := 2) dL_law_569 (by decide) rfl ?_
  refine zj_iadd 571 X dL_law_570 rfl ?_
  refine zj_sld 572 X hX hbl hbA h2 dL_law_571 rfl ?_
  refine zj_aload_n 573 X 3 dL_law_572 rfl rfl ?_
  refine zc_ifr 576 (wr := zM C b v) (wc := zWo C a o w) (Wd := zWo C a o) (v := zw_announce w (xs (i + 1).toNatClampNeg) (xs (i + 2).toNatClampNeg)) (mc := 1) (ms := 6) (zr_Sw (n := 4) (As := [.ref (a 0), .int (xs (i + 1).toNatClampNeg), .int (xs (i + 2).toNatClampNeg), .ref o]) (rest := []) X (zc_L_announce (l := l) (D := D) (C := C) (a := a) (o := o) (w := w) (p0 := (xs (i + 1).toNatClampNeg)) (p1 := (xs (i + 2).toNatClampNeg)) hfl) (zG_t 377 (by decide +kernel) rfl) (zG_t 378 (by decide +kernel) rfl) (zG_t 0 (by decide +kernel) rfl) (zG_t 379 (by decide +kernel) rfl) ⟨by decide +kernel, by decide +kernel, by decide +kernel⟩ (zcR_k rfl (by omega) (by omega)) (zD_r (hD v w)) hA rfl (Nat.le_of_ble_eq_true rfl) dL_law_573) (hD _ _) hA rfl ?_
  refine zj_istore 578 X (lv1 := [(0, .ref b0), (1, .ref (a 0)), (2, .ref (b 0)), (3, .ref o), (4, .int i), (5, .int ((zw_announce w (xs (i + 1).toNatClampNeg) (xs (i + 2).toNatClampNeg)).1))]) [1, 2, 3, 4, 5, 0] dL_law_576 (by decide) rfl rfl ?_
  refine zj_aload_n 579 X 2 dL_law_578 rfl rfl ?_
  refine zj_aload_n 580 X 0 dL_law_579 rfl rfl ?_
  refine zj_iload 582 X 4 dL_law_580 rfl rfl ?_
  refine zj_iconst 583 X (v := 1) dL_law_582 (by decide) rfl ?_
  refine zj_iadd 584 X dL_law_583 rfl ?_
  refine zj_sld 585 X hX hbl hbA h1 dL_law_584 rfl ?_
  refine zj_aload_n 586 X 0 dL_law_585 rfl rfl ?_
  refine zj_iload 588 X 4 dL_law_586 rfl rfl ?_
  refine zj_iconst 589 X (v := 2) dL_law_588 (by decide) rfl ?_
  refine zj_iadd 590 X dL_law_589 rfl ?_
  refine zj_sld 591 X hX hbl hbA h2 dL_law_590 rfl ?_
  refine zc_ifl 594 (wc := zM C b v) (wr := zWo C a o (zw_announce w (xs (i + 1).toNatClampNeg) (xs (i + 2).toNatClampNeg)).2) (Wd := zM C b) (v := zf_X5_announce v (xs (i + 1).toNatClampNeg) (xs (i + 2).toNatClampNeg)) (mc := 0) (ms := 0) (zr_Vm (As := [.int (xs (i + 1).toNatClampNeg), .int (xs (i + 2).toNatClampNeg)]) (rest := []) X (zc_X5_announce (l := l) (D := D) (C := C) (a := b) (v := v) (p0 := (xs (i + 1).toNatClampNeg)) (p1 := (xs (i + 2).toNatClampNeg)) (hE := fun h => zRel_E24 hR h)) zw_L_122 zn_X5_announce (zcR_k rfl (by omega) (by omega)) zO_M (zD_l (hD v w)) hA rfl (Nat.le_of_ble_eq_true rfl) dL_law_591) (hD _ _) hA rfl ?_
  refine zj_istore 596 X (lv1 := [(0, .ref b0), (1, .ref (a 0)), (2, .ref (b 0)), (3, .ref o), (4, .int i), (5, .int ((zw_announce w (xs (i + 1).toNatClampNeg) (xs (i + 2).toNatClampNeg)).1)), (6, .int ((zf_X5_announce v (xs (i + 1).toNatClampNeg) (xs (i + 2).toNatClampNeg)).1))]) [1, 2, 3, 4, 5, 6, 0] dL_law_594 (by decide) rfl rfl ?_
  refine zj_aload_n 597 X 2 dL_law_596 rfl rfl ?_
  refine zc_i 600 (zr_V (As := []) (rest := []) (wsub := zM C b (zf_X5_announce v (xs (i + 1).toNatClampNeg) (xs (i + 2).toNatClampNeg)).2) X (zc_X5_thrown (l := l) (D := D) (C := C) (a := b) (v := (zf_X5_announce v (xs (i + 1).toNatClampNeg) (xs (i + 2).toNatClampNeg)).2)) zw_L_81 zn_X5_thrown (zcR_k rfl (by omega) (by omega)) (zcO_l zO_M) (fun H h => zP_l h) rfl (Nat.le_of_ble_eq_true rfl) dL_law_597) rfl ?_
  refine zj_iload 602 X 5 dL_law_600 rfl rfl ?_
  refine zj_icmp_eq 605 607 X dL_law_602 (by decide) rfl (fun _ => ?_) (fun h => absurd s1.symm h)
  refine zj_iload 609 X 5 dL_law_607 rfl rfl ?_
  refine zj_join 624 [(0, .ref b0), (1, .ref (a 0)), (2, .ref (b 0)), (3, .ref o), (4, .int i), (5, .int ((zw_announce w (xs (i + 1).toNatClampNeg) (xs (i + 2).toNatClampNeg)).1)), (6, .int ((zf_X5_announce v (xs (i + 1).toNatClampNeg) (xs (i + 2).toNatClampNeg)).1))] [] ?_ (fun J1 => ?_)
  · refine zj_goto 1130 X dL_law_624 (by decide) ?_
    refine zj_widen (cells + 2) (slots + 12) (by omega) (by omega) ?_
    refine zj_lv [0, 1, 2, 3, 4] (lv1 := [(0, .ref b0), (1, .ref (a 0)), (2, .ref (b 0)), (3, .ref o), (4, .int i)]) rfl ?_
    exact kk _ _ s3
  refine zj_if_ne 612 624 X dL_law_609 (by decide) rfl (fun _ => J1) (fun h0 => ?_)
  refine zj_aload_n 613 X 3 dL_law_612 rfl rfl ?_
  refine zj_iconst 614 X (v := 0) dL_law_613 (by decide) rfl ?_
  refine zl_out 615 X dL_law_614 rfl ?_
  refine zj_iload 617 X 6 dL_law_615 rfl rfl ?_
  refine zj_i2l 618 X dL_law_617 rfl rfl ?_
  refine zj_lcmp 619 X dL_law_618 rfl ?_
  exact zj_if_eq 622 624 X dL_law_619 (by decide) rfl (fun _ => J1) (fun h => absurd (zlc_eq (s2 h0)) h)
set_option maxHeartbeats 4000000 in
set_option maxRecDepth 100000 in
theorem zLc_12_contract {p : Program} {l : Launch} {e : Env} {s : State} {m : MethodId} {below : List Frame} {meth : Method} {c : Code} {cells slots : Nat} {Q : State → Prop} {D : va_G} {C : ClassId × ClassId} {A : Nat → Prop} {b0 L : Nat} {xs : Nat → Int32} {a b : Nat → Nat} {o : Nat} (hfl : l.stackTraces = false) (F : zLX p s m c D C A b0 L xs) (hD : ∀ (v : zN) (w : zU × (Nat → Int64)), va_D A (zM C b v ++ zWo C a o w)) {n : Nat} {v : zN} {w : zU × (Nat → Int64)} {i : Int32} (hR : zRel n w.1 v) (hn : n < 600) (hc : cells + 2 ≤ 1060) (hs : slots + 12 ≤ 8453) (h1 : vp_in (i + 1) L) (h2 : vp_in (i + 2) L)
    (kk : ∀ (v' : zN) (w' : zU × (Nat → Int64)), zRel (n + 1) w'.1 v' → zJ p l e room_1 s m #[Value.ref b0] below meth c (cells + 2) (slots + 12) Q D (zk_Km A s) 8 (zM C b v' ++ zWo C a o w') 1130 [(0, .ref b0), (1, .ref (a 0)), (2, .ref (b 0)), (3, .ref o), (4, .int i)] []) : zJ p l e room_1 s m #[Value.ref b0] below meth c cells slots Q D (zk_Km A s) 8 (zM C b v ++ zWo C a o w) 627 [(0, .ref b0), (1, .ref (a 0)), (2, .ref (b 0)), (3, .ref o), (4, .int i)] [] := by
  obtain ⟨X, hX, hbl, hbA, hA, -⟩ := F
  obtain ⟨s1, s3⟩ := zSq_contract hR hn
  refine zj_aload_n 628 X 1 dL_law_627 rfl rfl ?_
  refine zc_i 631 (zr_V (As := []) (rest := []) (wsub := zS C a w.1) X (zc_X4_contract (l := l) (D := D) (C := C) (a := a) (u := w.1)) zw_L_123 zn_X4_contract (zcR_k rfl (by omega) (by omega)) (zcO_r (zcO_l zO_S0)) (fun H h => zP_l (zP_r h)) rfl (Nat.le_of_ble_eq_true rfl) dL_law_628) rfl ?_
  refine zj_aload_n 632 X 2 dL_law_631 rfl rfl ?_
  refine zc_ifl 635 (wc := zM C b v) (wr := zWo C a o w) (Wd := zM C b) (v := zf_X5_contract v) (mc := 0) (ms := 0) (zr_Vm (As := []) (rest := [.int (zf_X4_contract w.1)]) X (zc_X5_contract (l := l) (D := D) (C := C) (a := b) (v := v)) zw_L_126 zn_X5_contract (zcR_k rfl (by omega) (by omega)) zO_M (zD_l (hD v w)) hA rfl (Nat.le_of_ble_eq_true rfl) dL_law_632) (hD _ _) hA rfl ?_
  refine zj_icmp_eq 638 1130 X dL_law_635 (by decide) rfl (fun _ => ?_) (fun h => absurd s1 h)
  refine zj_widen (cells + 2) (slots + 12) (by omega) (by omega) ?_
  exact kk _ _ s3
set_option maxHeartbeats 4000000 in
set_option maxRecDepth 100000 in
theorem zLc_13_matadors {p : Program} {l : Launch} {e : Env} {s : State} {m : MethodId} {below : List Frame} {meth : Method} {c : Code} {cells slots : Nat} {Q : State → Prop} {D : va_G} {C : ClassId × ClassId} {A : Nat → Prop} {b0 L : Nat} {xs : Nat → Int32} {a b : Nat → Nat} {o : Nat} (hfl : l.stackTraces = false) (F : zLX p s m c D C A b0 L xs) (hD : ∀ (v : zN) (w : zU × (Nat → Int64)), va_D A (zM C b v ++ zWo C a o w)) {n : Nat} {v : zN} {w : zU × (Nat → Int64)} {i : Int32} (hR : zRel n w.1 v) (hn : n < 600) (hc : cells + 2 ≤ 1060) (hs : slots + 12 ≤ 8453) (h1 : vp_in (i + 1) L) (h2 : vp_in (i + 2) L)
    (kk : ∀ (v' : zN) (w' : zU × (Nat → Int64)), zRel (n + 1) w'.1 v' → zJ p l e room_1 s m #[Value.ref b0] below meth c (cells + 2) (slots + 12) Q D (zk_Km A s) 8 (zM C b v' ++ zWo C a o w') 1130 [(0, .ref b0), (1, .ref (a 0)), (2, .ref (b 0)), (3, .ref o), (4, .int i)] []) : zJ p l e room_1 s m #[Value.ref b0] below meth c cells slots Q D (zk_Km A s) 8 (zM C b v ++ zWo C a o w) 640 [(0, .ref b0), (1, .ref (a 0)), (2, .ref (b 0)), (3, .ref o), (4, .int i)] [] := by
  obtain ⟨X, hX, hbl, hbA, hA, -⟩ := F
  obtain ⟨s1, s2, s3⟩ := zSo_matadors (w := w) (p0 := (xs (i + 1).toNatClampNeg)) (p1 := (xs (i + 2).toNatClampNeg)) hR hn
  refine zj_aload_n 641 X 1 dL_law_640 rfl rfl ?_
  refine zj_aload_n 642 X 0 dL_law_641 rfl rfl ?_
  refine zj_iload 644 X 4 dL_law_642 rfl rfl ?_
  refine zj_iconst 645 X (v := 1) dL_law_644 (by decide) rfl ?_
  refine zj_iadd 646 X dL_law_645 rfl ?_
  refine zj_sld 647 X hX hbl hbA h1 dL_law_646 rfl ?_
  refine zj_aload_n 648 X 0 dL_law_647 rfl rfl ?_
  refine zj_iload 650 X 4 dL_law_648 rfl rfl ?_
  refine zj_iconst 651 X (v := 2) dL_law_650 (by decide) rfl ?_
  refine zj_iadd 652 X dL_law_651 rfl ?_
  refine zj_sld 653 X hX hbl hbA h2 dL_law_652 rfl ?_
  refine zj_aload_n 654 X 3 dL_law_653 rfl rfl ?_
  refine zc_ifr 657 (wr := zM C b v) (wc := zWo C a o w) (Wd := zWo C a o) (v := zw_matadors w (xs (i + 1).toNatClampNeg) (xs (i + 2).toNatClampNeg)) (mc := 2) (ms := 12) (zr_Sw (n := 4) (As := [.ref (a 0), .int (xs (i + 1).toNatClampNeg), .int (xs (i + 2).toNatClampNeg), .ref o]) (rest := []) X (zc_L_matadors (l := l) (D := D) (C := C) (a := a) (o := o) (w := w) (p0 := (xs (i + 1).toNatClampNeg)) (p1 := (xs (i + 2).toNatClampNeg)) hfl) (zG_t 390 (by decide +kernel) rfl) (zG_t 391 (by decide +kernel) rfl) (zG_t 0 (by decide +kernel) rfl) (zG_t 392 (by decide +kernel) rfl) ⟨by decide +kernel, by decide +kernel, by decide +kernel⟩ (zcR_k rfl (by omega) (by omega)) (zD_r (hD v w)) hA rfl (Nat.le_of_ble_eq_true rfl) dL_law_654) (hD _ _) hA rfl ?_
  refine zj_istore 659 X (lv1 := [(0, .ref b0), (1, .ref (a 0)), (2, .ref (b 0)), (3, .ref o), (4, .int i), (5, .int ((zw_matadors w (xs (i + 1).toNatClampNeg) (xs (i + 2).toNatClampNeg)).1))]) [1, 2, 3, 4, 5, 0] dL_law_657 (by decide) rfl rfl ?_
  refine zj_aload_n 660 X 2 dL_law_659 rfl rfl ?_
  refine zj_aload_n 661 X 0 dL_law_660 rfl rfl ?_
  refine zj_iload 663 X 4 dL_law_661 rfl rfl ?_
  refine zj_iconst 664 X (v := 1) dL_law_663 (by decide) rfl ?_
  refine zj_iadd 665 X dL_law_664 rfl ?_
  refine zj_sld 666 X hX hbl hbA h1 dL_law_665 rfl ?_
  refine zj_aload_n 667 X 0 dL_law_666 rfl rfl ?_
  refine zj_iload 669 X 4 dL_law_667 rfl rfl ?_
  refine zj_iconst 670 X (v := 2) dL_law_669 (by decide) rfl ?_
  refine zj_iadd 671 X dL_law_670 rfl ?_
  refine zj_sld 672 X hX hbl hbA h2 dL_law_671 rfl ?_
  refine zc_ifl 675 (wc := zM C b v) (wr := zWo C a o (zw_matadors w (xs (i + 1).toNatClampNeg) (xs (i + 2).toNatClampNeg)).2) (Wd := zM C b) (v := zf_X5_matadors v (xs (i + 1).toNatClampNeg) (xs (i + 2).toNatClampNeg)) (mc := 0) (ms := 0) (zr_Vm (As := [.int (xs (i + 1).toNatClampNeg), .int (xs (i + 2).toNatClampNeg)]) (rest := []) X (zc_X5_matadors (l := l) (D := D) (C := C) (a := b) (v := v) (p0 := (xs (i + 1).toNatClampNeg)) (p1 := (xs (i + 2).toNatClampNeg)) ) zw_L_129 zn_X5_matadors (zcR_k rfl (by omega) (by omega)) zO_M (zD_l (hD v w)) hA rfl (Nat.le_of_ble_eq_true rfl) dL_law_672) (hD _ _) hA rfl ?_
  refine zj_istore 677 X (lv1 := [(0, .ref b0), (1, .ref (a 0)), (2, .ref (b 0)), (3, .ref o), (4, .int i), (5, .int ((zw_matadors w (xs (i + 1).toNatClampNeg) (xs (i + 2).toNatClampNeg)).1)), (6, .int ((zf_X5_matadors v (xs (i + 1).toNatClampNeg) (xs (i + 2).toNatClampNeg)).1))]) [1, 2, 3, 4, 5, 6, 0] dL_law_675 (by decide) rfl rfl ?_
  refine zj_aload_n 678 X 2 dL_law_677 rfl rfl ?_
  refine zc_i 681 (zr_V (As := []) (rest := []) (wsub := zM C b (zf_X5_matadors v (xs (i + 1).toNatClampNeg) (xs (i + 2).toNatClampNeg)).2) X (zc_X5_thrown (l := l) (D := D) (C := C) (a := b) (v := (zf_X5_matadors v (xs (i + 1).toNatClampNeg) (xs (i + 2).toNatClampNeg)).2)) zw_L_81 zn_X5_thrown (zcR_k rfl (by omega) (by omega)) (zcO_l zO_M) (fun H h => zP_l h) rfl (Nat.le_of_ble_eq_true rfl) dL_law_678) rfl ?_
  refine zj_iload 683 X 5 dL_law_681 rfl rfl ?_
  refine zj_icmp_eq 686 688 X dL_law_683 (by decide) rfl (fun _ => ?_) (fun h => absurd s1.symm h)
  refine zj_iload 690 X 5 dL_law_688 rfl rfl ?_
  refine zj_join 705 [(0, .ref b0), (1, .ref (a 0)), (2, .ref (b 0)), (3, .ref o), (4, .int i), (5, .int ((zw_matadors w (xs (i + 1).toNatClampNeg) (xs (i + 2).toNatClampNeg)).1)), (6, .int ((zf_X5_matadors v (xs (i + 1).toNatClampNeg) (xs (i + 2).toNatClampNeg)).1))] [] ?_ (fun J1 => ?_)
  · refine zj_goto 1130 X dL_law_705 (by decide) ?_
    refine zj_widen (cells + 2) (slots + 12) (by omega) (by omega) ?_
    refine zj_lv [0, 1, 2, 3, 4] (lv1 := [(0, .ref b0), (1, .ref (a 0)), (2, .ref (b 0)), (3, .ref o), (4, .int i)]) rfl ?_
    exact kk _ _ s3
  refine zj_if_ne 693 705 X dL_law_690 (by decide) rfl (fun _ => J1) (fun h0 => ?_)
  refine zj_aload_n 694 X 3 dL_law_693 rfl rfl ?_
  refine zj_iconst 695 X (v := 0) dL_law_694 (by decide) rfl ?_
  refine zl_out 696 X dL_law_695 rfl ?_
  refine zj_iload 698 X 6 dL_law_696 rfl rfl ?_
  refine zj_i2l 699 X dL_law_698 rfl rfl ?_
  refine zj_lcmp 700 X dL_law_699 rfl ?_
  exact zj_if_eq 703 705 X dL_law_700 (by decide) rfl (fun _ => J1) (fun h => absurd (zlc_eq (s2 h0)) h)
set_option maxHeartbeats 4000000 in
set_option maxRecDepth 100000 in
theorem zLc_14_playable {p : Program} {l : Launch} {e : Env} {s : State} {m : MethodId} {below : List Frame} {meth : Method} {c : Code} {cells slots : Nat} {Q : State → Prop} {D : va_G} {C : ClassId × ClassId} {A : Nat → Prop} {b0 L : Nat} {xs : Nat → Int32} {a b : Nat → Nat} {o : Nat} (hfl : l.stackTraces = false) (F : zLX p s m c D C A b0 L xs) (hD : ∀ (v : zN) (w : zU × (Nat → Int64)), va_D A (zM C b v ++ zWo C a o w)) {n : Nat} {v : zN} {w : zU × (Nat → Int64)} {i : Int32} (hR : zRel n w.1 v) (hn : n < 600) (hc : cells + 2 ≤ 1060) (hs : slots + 12 ≤ 8453) (h1 : vp_in (i + 1) L) (h2 : vp_in (i + 2) L)
    (kk : ∀ (v' : zN) (w' : zU × (Nat → Int64)), zRel (n + 1) w'.1 v' → zJ p l e room_1 s m #[Value.ref b0] below meth c (cells + 2) (slots + 12) Q D (zk_Km A s) 8 (zM C b v' ++ zWo C a o w') 1130 [(0, .ref b0), (1, .ref (a 0)), (2, .ref (b 0)), (3, .ref o), (4, .int i)] []) : zJ p l e room_1 s m #[Value.ref b0] below meth c cells slots Q D (zk_Km A s) 8 (zM C b v ++ zWo C a o w) 708 [(0, .ref b0), (1, .ref (a 0)), (2, .ref (b 0)), (3, .ref o), (4, .int i)] [] := by
  obtain ⟨X, hX, hbl, hbA, hA, -⟩ := F
  obtain ⟨s1, s2, s3⟩ := zSo_playable (w := w) hR hn
  refine zj_aload_n 709 X 1 dL_law_708 rfl rfl ?_
  refine zj_aload_n 710 X 3 dL_law_709 rfl rfl ?_
  refine zc_ifr 713 (wr := zM C b v) (wc := zWo C a o w) (Wd := zWo C a o) (v := zw_playable w) (mc := 1) (ms := 6) (zr_Sw (n := 2) (As := [.ref (a 0), .ref o]) (rest := []) X (zc_L_playable (l := l) (D := D) (C := C) (a := a) (o := o) (w := w) hfl) (zG_t 412 (by decide +kernel) rfl) (zG_t 413 (by decide +kernel) rfl) (zG_t 0 (by decide +kernel) rfl) (zG_t 414 (by decide +kernel) rfl) ⟨by decide +kernel, by decide +kernel, by decide +kernel⟩ (zcR_k rfl (by omega) (by omega)) (zD_r (hD v w)) hA rfl (Nat.le_of_ble_eq_true rfl) dL_law_710) (hD _ _) hA rfl ?_
  refine zj_istore 715 X (lv1 := [(0, .ref b0), (1, .ref (a 0)), (2, .ref (b 0)), (3, .ref o), (4, .int i), (5, .int ((zw_playable w).1))]) [1, 2, 3, 4, 5, 0] dL_law_713 (by decide) rfl rfl ?_
  refine zj_aload_n 716 X 2 dL_law_715 rfl rfl ?_
  refine zc_lfl 719 (wc := zM C b v) (wr := zWo C a o (zw_playable w).2) (Wd := zM C b) (v := zf_X5_playable v) (mc := 0) (ms := 0) (zr_Vm (As := []) (rest := []) X (zc_X5_playable (l := l) (D := D) (C := C) (a := b) (v := v) (hT := zRel_T hR)) zw_L_132 zn_X5_playable (zcR_k rfl (by omega) (by omega)) zO_M (zD_l (hD v w)) hA rfl (Nat.le_of_ble_eq_true rfl) dL_law_716) (hD _ _) hA rfl ?_
  refine zj_lstore 721 X (lv1 := [(0, .ref b0), (1, .ref (a 0)), (2, .ref (b 0)), (3, .ref o), (4, .int i), (5, .int ((zw_playable w).1)), (6, .long ((zf_X5_playable v).1))]) [1, 2, 3, 4, 5, 6, 0] dL_law_719 (by decide) rfl rfl ?_
  refine zj_aload_n 722 X 2 dL_law_721 rfl rfl ?_
  refine zc_i 725 (zr_V (As := []) (rest := []) (wsub := zM C b (zf_X5_playable v).2) X (zc_X5_thrown (l := l) (D := D) (C := C) (a := b) (v := (zf_X5_playable v).2)) zw_L_81 zn_X5_thrown (zcR_k rfl (by omega) (by omega)) (zcO_l zO_M) (fun H h => zP_l h) rfl (Nat.le_of_ble_eq_true rfl) dL_law_722) rfl ?_
  refine zj_iload 727 X 5 dL_law_725 rfl rfl ?_
  refine zj_icmp_eq 730 732 X dL_law_727 (by decide) rfl (fun _ => ?_) (fun h => absurd s1.symm h)
  refine zj_iload 734 X 5 dL_law_732 rfl rfl ?_
  refine zj_join 748 [(0, .ref b0), (1, .ref (a 0)), (2, .ref (b 0)), (3, .ref o), (4, .int i), (5, .int ((zw_playable w).1)), (6, .long ((zf_X5_playable v).1))] [] ?_ (fun J1 => ?_)
  · refine zj_goto 1130 X dL_law_748 (by decide) ?_
    refine zj_widen (cells + 2) (slots + 12) (by omega) (by omega) ?_
    refine zj_lv [0, 1, 2, 3, 4] (lv1 := [(0, .ref b0), (1, .ref (a 0)), (2, .ref (b 0)), (3, .ref o), (4, .int i)]) rfl ?_
    exact kk _ _ s3
  refine zj_if_ne 737 748 X dL_law_734 (by decide) rfl (fun _ => J1) (fun h0 => ?_)
  refine zj_aload_n 738 X 3 dL_law_737 rfl rfl ?_
  refine zj_iconst 739 X (v := 0) dL_law_738 (by decide) rfl ?_
  refine zl_out 740 X dL_law_739 rfl ?_
  refine zj_lload 742 X 6 dL_law_740 rfl rfl ?_
  refine zj_lcmp 743 X dL_law_742 rfl ?_
  exact zj_if_eq 746 748 X dL_law_743 (by decide) rfl (fun _ => J1) (fun h => absurd (zlc_eq (s2 h0)) h)
set_option maxHeartbeats 4000000 in
set_option maxRecDepth 100000 in
theorem zLc_15_play {p : Program} {l : Launch} {e : Env} {s : State} {m : MethodId} {below : List Frame} {meth : Method} {c : Code} {cells slots : Nat} {Q : State → Prop} {D : va_G} {C : ClassId × ClassId} {A : Nat → Prop} {b0 L : Nat} {xs : Nat → Int32} {a b : Nat → Nat} {o : Nat} (hfl : l.stackTraces = false) (F : zLX p s m c D C A b0 L xs) (hD : ∀ (v : zN) (w : zU × (Nat → Int64)), va_D A (zM C b v ++ zWo C a o w)) {n : Nat} {v : zN} {w : zU × (Nat → Int64)} {i : Int32} (hR : zRel n w.1 v) (hn : n < 600) (hc : cells + 2 ≤ 1060) (hs : slots + 12 ≤ 8453) (h1 : vp_in (i + 1) L) (h2 : vp_in (i + 2) L)
    (kk : ∀ (v' : zN) (w' : zU × (Nat → Int64)), zRel (n + 1) w'.1 v' → zJ p l e room_1 s m #[Value.ref b0] below meth c (cells + 2) (slots + 12) Q D (zk_Km A s) 8 (zM C b v' ++ zWo C a o w') 1130 [(0, .ref b0), (1, .ref (a 0)), (2, .ref (b 0)), (3, .ref o), (4, .int i)] []) : zJ p l e room_1 s m #[Value.ref b0] below meth c cells slots Q D (zk_Km A s) 8 (zM C b v ++ zWo C a o w) 751 [(0, .ref b0), (1, .ref (a 0)), (2, .ref (b 0)), (3, .ref o), (4, .int i)] [] := by
  obtain ⟨X, hX, hbl, hbA, hA, -⟩ := F
  obtain ⟨s1, s2, s3⟩ := zSo_play (w := w) (p0 := (xs (i + 1).toNatClampNeg)) hR hn
  refine zj_aload_n 752 X 1 dL_law_751 rfl rfl ?_
  refine zj_aload_n 753 X 0 dL_law_752 rfl rfl ?_
  refine zj_iload 755 X 4 dL_law_753 rfl rfl ?_
  refine zj_iconst 756 X (v := 1) dL_law_755 (by decide) rfl ?_
  refine zj_iadd 757 X dL_law_756 rfl ?_
  refine zj_sld 758 X hX hbl hbA h1 dL_law_757 rfl ?_
  refine zj_aload_n 759 X 3 dL_law_758 rfl rfl ?_
  refine zc_ifr 762 (wr := zM C b v) (wc := zWo C a o w) (Wd := zWo C a o) (v := zw_play w (xs (i + 1).toNatClampNeg)) (mc := 1) (ms := 6) (zr_Sw (n := 3) (As := [.ref (a 0), .int (xs (i + 1).toNatClampNeg), .ref o]) (rest := []) X (zc_L_play (l := l) (D := D) (C := C) (a := a) (o := o) (w := w) (p0 := (xs (i + 1).toNatClampNeg)) hfl) (zG_t 444 (by decide +kernel) rfl) (zG_t 445 (by decide +kernel) rfl) (zG_t 0 (by decide +kernel) rfl) (zG_t 446 (by decide +kernel) rfl) ⟨by decide +kernel, by decide +kernel, by decide +kernel⟩ (zcR_k rfl (by omega) (by omega)) (zD_r (hD v w)) hA rfl (Nat.le_of_ble_eq_true rfl) dL_law_759) (hD _ _) hA rfl ?_
  refine zj_istore 764 X (lv1 := [(0, .ref b0), (1, .ref (a 0)), (2, .ref (b 0)), (3, .ref o), (4, .int i), (5, .int ((zw_play w (xs (i + 1).toNatClampNeg)).1))]) [1, 2, 3, 4, 5, 0] dL_law_762 (by decide) rfl rfl ?_
  refine zj_aload_n 765 X 2 dL_law_764 rfl rfl ?_
  refine zj_aload_n 766 X 0 dL_law_765 rfl rfl ?_
  refine zj_iload 768 X 4 dL_law_766 rfl rfl ?_
  refine zj_iconst 769 X (v := 1) dL_law_768 (by decide) rfl ?_
  refine zj_iadd 770 X dL_law_769 rfl ?_
  refine zj_sld 771 X hX hbl hbA h1 dL_law_770 rfl ?_
  refine zc_ifl 774 (wc := zM C b v) (wr := zWo C a o (zw_play w (xs (i + 1).toNatClampNeg)).2) (Wd := zM C b) (v := zf_X5_play v (xs (i + 1).toNatClampNeg)) (mc := 0) (ms := 0) (zr_Vm (As := [.int (xs (i + 1).toNatClampNeg)]) (rest := []) X (zc_X5_play (l := l) (D := D) (C := C) (a := b) (v := v) (p0 := (xs (i + 1).toNatClampNeg)) (hT := zRel_T hR) (hL := zRel_L hR) (hI := zRel_I hR) (hE := fun h => zRel_E5 hR h) (hB := zRel_B hR)) zw_L_135 zn_X5_play (zcR_k rfl (by omega) (by omega)) zO_M (zD_l (hD v w)) hA rfl (Nat.le_of_ble_eq_true rfl) dL_law_771) (hD _ _) hA rfl ?_
  refine zj_istore 776 X (lv1 := [(0, .ref b0), (1, .ref (a 0)), (2, .ref (b 0)), (3, .ref o), (4, .int i), (5, .int ((zw_play w (xs (i + 1).toNatClampNeg)).1)), (6, .int ((zf_X5_play v (xs (i + 1).toNatClampNeg)).1))]) [1, 2, 3, 4, 5, 6, 0] dL_law_774 (by decide) rfl rfl ?_
  refine zj_aload_n 777 X 2 dL_law_776 rfl rfl ?_
  refine zc_i 780 (zr_V (As := []) (rest := []) (wsub := zM C b (zf_X5_play v (xs (i + 1).toNatClampNeg)).2) X (zc_X5_thrown (l := l) (D := D) (C := C) (a := b) (v := (zf_X5_play v (xs (i + 1).toNatClampNeg)).2)) zw_L_81 zn_X5_thrown (zcR_k rfl (by omega) (by omega)) (zcO_l zO_M) (fun H h => zP_l h) rfl (Nat.le_of_ble_eq_true rfl) dL_law_777) rfl ?_
  refine zj_iload 782 X 5 dL_law_780 rfl rfl ?_
  refine zj_icmp_eq 785 787 X dL_law_782 (by decide) rfl (fun _ => ?_) (fun h => absurd s1.symm h)
  refine zj_iload 789 X 5 dL_law_787 rfl rfl ?_
  refine zj_join 804 [(0, .ref b0), (1, .ref (a 0)), (2, .ref (b 0)), (3, .ref o), (4, .int i), (5, .int ((zw_play w (xs (i + 1).toNatClampNeg)).1)), (6, .int ((zf_X5_play v (xs (i + 1).toNatClampNeg)).1))] [] ?_ (fun J1 => ?_)
  · refine zj_goto 1130 X dL_law_804 (by decide) ?_
    refine zj_widen (cells + 2) (slots + 12) (by omega) (by omega) ?_
    refine zj_lv [0, 1, 2, 3, 4] (lv1 := [(0, .ref b0), (1, .ref (a 0)), (2, .ref (b 0)), (3, .ref o), (4, .int i)]) rfl ?_
    exact kk _ _ s3
  refine zj_if_ne 792 804 X dL_law_789 (by decide) rfl (fun _ => J1) (fun h0 => ?_)
  refine zj_aload_n 793 X 3 dL_law_792 rfl rfl ?_
  refine zj_iconst 794 X (v := 0) dL_law_793 (by decide) rfl ?_
  refine zl_out 795 X dL_law_794 rfl ?_
  refine zj_iload 797 X 6 dL_law_795 rfl rfl ?_
  refine zj_i2l 798 X dL_law_797 rfl rfl ?_
  refine zj_lcmp 799 X dL_law_798 rfl ?_
  exact zj_if_eq 802 804 X dL_law_799 (by decide) rfl (fun _ => J1) (fun h => absurd (zlc_eq (s2 h0)) h)
set_option maxHeartbeats 4000000 in
set_option maxRecDepth 100000 in
theorem zLc_16_hand {p : Program} {l : Launch} {e : Env} {s : State} {m : MethodId} {below : List Frame} {meth : Method} {c : Code} {cells slots : Nat} {Q : State → Prop} {D : va_G} {C : ClassId × ClassId} {A : Nat → Prop} {b0 L : Nat} {xs : Nat → Int32} {a b : Nat → Nat} {o : Nat} (hfl : l.stackTraces = false) (F : zLX p s m c D C A b0 L xs) (hD : ∀ (v : zN) (w : zU × (Nat → Int64)), va_D A (zM C b v ++ zWo C a o w)) {n : Nat} {v : zN} {w : zU × (Nat → Int64)} {i : Int32} (hR : zRel n w.1 v) (hn : n < 600) (hc : cells + 2 ≤ 1060) (hs : slots + 12 ≤ 8453) (h1 : vp_in (i + 1) L) (h2 : vp_in (i + 2) L)
    (kk : ∀ (v' : zN) (w' : zU × (Nat → Int64)), zRel (n + 1) w'.1 v' → zJ p l e room_1 s m #[Value.ref b0] below meth c (cells + 2) (slots + 12) Q D (zk_Km A s) 8 (zM C b v' ++ zWo C a o w') 1130 [(0, .ref b0), (1, .ref (a 0)), (2, .ref (b 0)), (3, .ref o), (4, .int i)] []) : zJ p l e room_1 s m #[Value.ref b0] below meth c cells slots Q D (zk_Km A s) 8 (zM C b v ++ zWo C a o w) 807 [(0, .ref b0), (1, .ref (a 0)), (2, .ref (b 0)), (3, .ref o), (4, .int i)] [] := by
  obtain ⟨X, hX, hbl, hbA, hA, -⟩ := F
  obtain ⟨s1, s2, s3⟩ := zSo_hand (w := w) (p0 := (xs (i + 1).toNatClampNeg)) hR hn
  refine zj_aload_n 808 X 1 dL_law_807 rfl rfl ?_
  refine zj_aload_n 809 X 0 dL_law_808 rfl rfl ?_
  refine zj_iload 811 X 4 dL_law_809 rfl rfl ?_
  refine zj_iconst 812 X (v := 1) dL_law_811 (by decide) rfl ?_
  refine zj_iadd 813 X dL_law_812 rfl ?_
  refine zj_sld 814 X hX hbl hbA h1 dL_law_813 rfl ?_
  refine zj_aload_n 815 X 3 dL_law_814 rfl rfl ?_
  refine zc_ifr 818 (wr := zM C b v) (wc := zWo C a o w) (Wd := zWo C a o) (v := zw_hand w (xs (i + 1).toNatClampNeg)) (mc := 1) (ms := 6) (zr_Sw (n := 3) (As := [.ref (a 0), .int (xs (i + 1).toNatClampNeg), .ref o]) (rest := []) X (zc_L_hand (l := l) (D := D) (C := C) (a := a) (o := o) (w := w) (p0 := (xs (i + 1).toNatClampNeg)) hfl) (zG_t 556 (by decide +kernel) rfl) (zG_t 557 (by decide +kernel) rfl) (zG_t 0 (by decide +kernel) rfl) (zG_t 558 (by decide +kernel) rfl) ⟨by decide +kernel, by decide +kernel, by decide +kernel⟩ (zcR_k rfl (by omega) (by omega)) (zD_r (hD v w)) hA rfl (Nat.le_of_ble_eq_true rfl) dL_law_815) (hD _ _) hA rfl ?_
  refine zj_istore 820 X (lv1 := [(0, .ref b0), (1, .ref (a 0)), (2, .ref (b 0)), (3, .ref o), (4, .int i), (5, .int ((zw_hand w (xs (i + 1).toNatClampNeg)).1))]) [1, 2, 3, 4, 5, 0] dL_law_818 (by decide) rfl rfl ?_
  refine zj_aload_n 821 X 2 dL_law_820 rfl rfl ?_
  refine zj_aload_n 822 X 0 dL_law_821 rfl rfl ?_
  refine zj_iload 824 X 4 dL_law_822 rfl rfl ?_
  refine zj_iconst 825 X (v := 1) dL_law_824 (by decide) rfl ?_
  refine zj_iadd 826 X dL_law_825 rfl ?_
  refine zj_sld 827 X hX hbl hbA h1 dL_law_826 rfl ?_
  refine zc_lfl 830 (wc := zM C b v) (wr := zWo C a o (zw_hand w (xs (i + 1).toNatClampNeg)).2) (Wd := zM C b) (v := zf_X5_hand v (xs (i + 1).toNatClampNeg)) (mc := 0) (ms := 0) (zr_Vm (As := [.int (xs (i + 1).toNatClampNeg)]) (rest := []) X (zc_X5_hand (l := l) (D := D) (C := C) (a := b) (v := v) (p0 := (xs (i + 1).toNatClampNeg)) ) zw_L_138 zn_X5_hand (zcR_k rfl (by omega) (by omega)) zO_M (zD_l (hD v w)) hA rfl (Nat.le_of_ble_eq_true rfl) dL_law_827) (hD _ _) hA rfl ?_
  refine zj_lstore 832 X (lv1 := [(0, .ref b0), (1, .ref (a 0)), (2, .ref (b 0)), (3, .ref o), (4, .int i), (5, .int ((zw_hand w (xs (i + 1).toNatClampNeg)).1)), (6, .long ((zf_X5_hand v (xs (i + 1).toNatClampNeg)).1))]) [1, 2, 3, 4, 5, 6, 0] dL_law_830 (by decide) rfl rfl ?_
  refine zj_aload_n 833 X 2 dL_law_832 rfl rfl ?_
  refine zc_i 836 (zr_V (As := []) (rest := []) (wsub := zM C b (zf_X5_hand v (xs (i + 1).toNatClampNeg)).2) X (zc_X5_thrown (l := l) (D := D) (C := C) (a := b) (v := (zf_X5_hand v (xs (i + 1).toNatClampNeg)).2)) zw_L_81 zn_X5_thrown (zcR_k rfl (by omega) (by omega)) (zcO_l zO_M) (fun H h => zP_l h) rfl (Nat.le_of_ble_eq_true rfl) dL_law_833) rfl ?_
  refine zj_iload 838 X 5 dL_law_836 rfl rfl ?_
  refine zj_icmp_eq 841 843 X dL_law_838 (by decide) rfl (fun _ => ?_) (fun h => absurd s1.symm h)
  refine zj_iload 845 X 5 dL_law_843 rfl rfl ?_
  refine zj_join 859 [(0, .ref b0), (1, .ref (a 0)), (2, .ref (b 0)), (3, .ref o), (4, .int i), (5, .int ((zw_hand w (xs (i + 1).toNatClampNeg)).1)), (6, .long ((zf_X5_hand v (xs (i + 1).toNatClampNeg)).1))] [] ?_ (fun J1 => ?_)
  · refine zj_goto 1130 X dL_law_859 (by decide) ?_
    refine zj_widen (cells + 2) (slots + 12) (by omega) (by omega) ?_
    refine zj_lv [0, 1, 2, 3, 4] (lv1 := [(0, .ref b0), (1, .ref (a 0)), (2, .ref (b 0)), (3, .ref o), (4, .int i)]) rfl ?_
    exact kk _ _ s3
  refine zj_if_ne 848 859 X dL_law_845 (by decide) rfl (fun _ => J1) (fun h0 => ?_)
  refine zj_aload_n 849 X 3 dL_law_848 rfl rfl ?_
  refine zj_iconst 850 X (v := 0) dL_law_849 (by decide) rfl ?_
  refine zl_out 851 X dL_law_850 rfl ?_
  refine zj_lload 853 X 6 dL_law_851 rfl rfl ?_
  refine zj_lcmp 854 X dL_law_853 rfl ?_
  exact zj_if_eq 857 859 X dL_law_854 (by decide) rfl (fun _ => J1) (fun h => absurd (zlc_eq (s2 h0)) h)
set_option maxHeartbeats 4000000 in
set_option maxRecDepth 100000 in
theorem zLc_17_inTrick {p : Program} {l : Launch} {e : Env} {s : State} {m : MethodId} {below : List Frame} {meth : Method} {c : Code} {cells slots : Nat} {Q : State → Prop} {D : va_G} {C : ClassId × ClassId} {A : Nat → Prop} {b0 L : Nat} {xs : Nat → Int32} {a b : Nat → Nat} {o : Nat} (hfl : l.stackTraces = false) (F : zLX p s m c D C A b0 L xs) (hD : ∀ (v : zN) (w : zU × (Nat → Int64)), va_D A (zM C b v ++ zWo C a o w)) {n : Nat} {v : zN} {w : zU × (Nat → Int64)} {i : Int32} (hR : zRel n w.1 v) (hn : n < 600) (hc : cells + 2 ≤ 1060) (hs : slots + 12 ≤ 8453) (h1 : vp_in (i + 1) L) (h2 : vp_in (i + 2) L)
    (kk : ∀ (v' : zN) (w' : zU × (Nat → Int64)), zRel (n + 1) w'.1 v' → zJ p l e room_1 s m #[Value.ref b0] below meth c (cells + 2) (slots + 12) Q D (zk_Km A s) 8 (zM C b v' ++ zWo C a o w') 1130 [(0, .ref b0), (1, .ref (a 0)), (2, .ref (b 0)), (3, .ref o), (4, .int i)] []) : zJ p l e room_1 s m #[Value.ref b0] below meth c cells slots Q D (zk_Km A s) 8 (zM C b v ++ zWo C a o w) 862 [(0, .ref b0), (1, .ref (a 0)), (2, .ref (b 0)), (3, .ref o), (4, .int i)] [] := by
  obtain ⟨X, hX, hbl, hbA, hA, -⟩ := F
  obtain ⟨s1, s2, s3⟩ := zSo_inTrick (w := w) (p0 := (xs (i + 1).toNatClampNeg)) hR hn
  refine zj_aload_n 863 X 1 dL_law_862 rfl rfl ?_
  refine zj_aload_n 864 X 0 dL_law_863 rfl rfl ?_
  refine zj_iload 866 X 4 dL_law_864 rfl rfl ?_
  refine zj_iconst 867 X (v := 1) dL_law_866 (by decide) rfl ?_
  refine zj_iadd 868 X dL_law_867 rfl ?_
  refine zj_sld 869 X hX hbl hbA h1 dL_law_868 rfl ?_
  refine zj_aload_n 870 X 3 dL_law_869 rfl rfl ?_
  refine zc_ifr 873 (wr := zM C b v) (wc := zWo C a o w) (Wd := zWo C a o) (v := zw_inTrick w (xs (i + 1).toNatClampNeg)) (mc := 1) (ms := 6) (zr_Sw (n := 3) (As := [.ref (a 0), .int (xs (i + 1).toNatClampNeg), .ref o]) (rest := []) X (zc_L_inTrick (l := l) (D := D) (C := C) (a := a) (o := o) (w := w) (p0 := (xs (i + 1).toNatClampNeg)) hfl) (zG_t 563 (by decide +kernel) rfl) (zG_t 564 (by decide +kernel) rfl) (zG_t 0 (by decide +kernel) rfl) (zG_t 565 (by decide +kernel) rfl) ⟨by decide +kernel, by decide +kernel, by decide +kernel⟩ (zcR_k rfl (by omega) (by omega)) (zD_r (hD v w)) hA rfl (Nat.le_of_ble_eq_true rfl) dL_law_870) (hD _ _) hA rfl ?_
  refine zj_istore 875 X (lv1 := [(0, .ref b0), (1, .ref (a 0)), (2, .ref (b 0)), (3, .ref o), (4, .int i), (5, .int ((zw_inTrick w (xs (i + 1).toNatClampNeg)).1))]) [1, 2, 3, 4, 5, 0] dL_law_873 (by decide) rfl rfl ?_
  refine zj_aload_n 876 X 2 dL_law_875 rfl rfl ?_
  refine zj_aload_n 877 X 0 dL_law_876 rfl rfl ?_
  refine zj_iload 879 X 4 dL_law_877 rfl rfl ?_
  refine zj_iconst 880 X (v := 1) dL_law_879 (by decide) rfl ?_
  refine zj_iadd 881 X dL_law_880 rfl ?_
  refine zj_sld 882 X hX hbl hbA h1 dL_law_881 rfl ?_
  refine zc_ifl 885 (wc := zM C b v) (wr := zWo C a o (zw_inTrick w (xs (i + 1).toNatClampNeg)).2) (Wd := zM C b) (v := zf_X5_inTrick v (xs (i + 1).toNatClampNeg)) (mc := 0) (ms := 0) (zr_Vm (As := [.int (xs (i + 1).toNatClampNeg)]) (rest := []) X (zc_X5_inTrick (l := l) (D := D) (C := C) (a := b) (v := v) (p0 := (xs (i + 1).toNatClampNeg)) ) zw_L_141 zn_X5_inTrick (zcR_k rfl (by omega) (by omega)) zO_M (zD_l (hD v w)) hA rfl (Nat.le_of_ble_eq_true rfl) dL_law_882) (hD _ _) hA rfl ?_
  refine zj_istore 887 X (lv1 := [(0, .ref b0), (1, .ref (a 0)), (2, .ref (b 0)), (3, .ref o), (4, .int i), (5, .int ((zw_inTrick w (xs (i + 1).toNatClampNeg)).1)), (6, .int ((zf_X5_inTrick v (xs (i + 1).toNatClampNeg)).1))]) [1, 2, 3, 4, 5, 6, 0] dL_law_885 (by decide) rfl rfl ?_
  refine zj_aload_n 888 X 2 dL_law_887 rfl rfl ?_
  refine zc_i 891 (zr_V (As := []) (rest := []) (wsub := zM C b (zf_X5_inTrick v (xs (i + 1).toNatClampNeg)).2) X (zc_X5_thrown (l := l) (D := D) (C := C) (a := b) (v := (zf_X5_inTrick v (xs (i + 1).toNatClampNeg)).2)) zw_L_81 zn_X5_thrown (zcR_k rfl (by omega) (by omega)) (zcO_l zO_M) (fun H h => zP_l h) rfl (Nat.le_of_ble_eq_true rfl) dL_law_888) rfl ?_
  refine zj_iload 893 X 5 dL_law_891 rfl rfl ?_
  refine zj_icmp_eq 896 898 X dL_law_893 (by decide) rfl (fun _ => ?_) (fun h => absurd s1.symm h)
  refine zj_iload 900 X 5 dL_law_898 rfl rfl ?_
  refine zj_join 915 [(0, .ref b0), (1, .ref (a 0)), (2, .ref (b 0)), (3, .ref o), (4, .int i), (5, .int ((zw_inTrick w (xs (i + 1).toNatClampNeg)).1)), (6, .int ((zf_X5_inTrick v (xs (i + 1).toNatClampNeg)).1))] [] ?_ (fun J1 => ?_)
  · refine zj_goto 1130 X dL_law_915 (by decide) ?_
    refine zj_widen (cells + 2) (slots + 12) (by omega) (by omega) ?_
    refine zj_lv [0, 1, 2, 3, 4] (lv1 := [(0, .ref b0), (1, .ref (a 0)), (2, .ref (b 0)), (3, .ref o), (4, .int i)]) rfl ?_
    exact kk _ _ s3
  refine zj_if_ne 903 915 X dL_law_900 (by decide) rfl (fun _ => J1) (fun h0 => ?_)
  refine zj_aload_n 904 X 3 dL_law_903 rfl rfl ?_
  refine zj_iconst 905 X (v := 0) dL_law_904 (by decide) rfl ?_
  refine zl_out 906 X dL_law_905 rfl ?_
  refine zj_iload 908 X 6 dL_law_906 rfl rfl ?_
  refine zj_i2l 909 X dL_law_908 rfl rfl ?_
  refine zj_lcmp 910 X dL_law_909 rfl ?_
  exact zj_if_eq 913 915 X dL_law_910 (by decide) rfl (fun _ => J1) (fun h => absurd (zlc_eq (s2 h0)) h)
set_option maxHeartbeats 4000000 in
set_option maxRecDepth 100000 in
theorem zLc_18_points {p : Program} {l : Launch} {e : Env} {s : State} {m : MethodId} {below : List Frame} {meth : Method} {c : Code} {cells slots : Nat} {Q : State → Prop} {D : va_G} {C : ClassId × ClassId} {A : Nat → Prop} {b0 L : Nat} {xs : Nat → Int32} {a b : Nat → Nat} {o : Nat} (hfl : l.stackTraces = false) (F : zLX p s m c D C A b0 L xs) (hD : ∀ (v : zN) (w : zU × (Nat → Int64)), va_D A (zM C b v ++ zWo C a o w)) {n : Nat} {v : zN} {w : zU × (Nat → Int64)} {i : Int32} (hR : zRel n w.1 v) (hn : n < 600) (hc : cells + 2 ≤ 1060) (hs : slots + 12 ≤ 8453) (h1 : vp_in (i + 1) L) (h2 : vp_in (i + 2) L)
    (kk : ∀ (v' : zN) (w' : zU × (Nat → Int64)), zRel (n + 1) w'.1 v' → zJ p l e room_1 s m #[Value.ref b0] below meth c (cells + 2) (slots + 12) Q D (zk_Km A s) 8 (zM C b v' ++ zWo C a o w') 1130 [(0, .ref b0), (1, .ref (a 0)), (2, .ref (b 0)), (3, .ref o), (4, .int i)] []) : zJ p l e room_1 s m #[Value.ref b0] below meth c cells slots Q D (zk_Km A s) 8 (zM C b v ++ zWo C a o w) 918 [(0, .ref b0), (1, .ref (a 0)), (2, .ref (b 0)), (3, .ref o), (4, .int i)] [] := by
  obtain ⟨X, hX, hbl, hbA, hA, -⟩ := F
  obtain ⟨s1, s2, s3⟩ := zSo_points (w := w) (p0 := (xs (i + 1).toNatClampNeg)) hR hn
  refine zj_aload_n 919 X 1 dL_law_918 rfl rfl ?_
  refine zj_aload_n 920 X 0 dL_law_919 rfl rfl ?_
  refine zj_iload 922 X 4 dL_law_920 rfl rfl ?_
  refine zj_iconst 923 X (v := 1) dL_law_922 (by decide) rfl ?_
  refine zj_iadd 924 X dL_law_923 rfl ?_
  refine zj_sld 925 X hX hbl hbA h1 dL_law_924 rfl ?_
  refine zj_aload_n 926 X 3 dL_law_925 rfl rfl ?_
  refine zc_ifr 929 (wr := zM C b v) (wc := zWo C a o w) (Wd := zWo C a o) (v := zw_points w (xs (i + 1).toNatClampNeg)) (mc := 1) (ms := 6) (zr_Sw (n := 3) (As := [.ref (a 0), .int (xs (i + 1).toNatClampNeg), .ref o]) (rest := []) X (zc_L_points (l := l) (D := D) (C := C) (a := a) (o := o) (w := w) (p0 := (xs (i + 1).toNatClampNeg)) hfl) (zG_t 571 (by decide +kernel) rfl) (zG_t 572 (by decide +kernel) rfl) (zG_t 0 (by decide +kernel) rfl) (zG_t 573 (by decide +kernel) rfl) ⟨by decide +kernel, by decide +kernel, by decide +kernel⟩ (zcR_k rfl (by omega) (by omega)) (zD_r (hD v w)) hA rfl (Nat.le_of_ble_eq_true rfl) dL_law_926) (hD _ _) hA rfl ?_
  refine zj_istore 931 X (lv1 := [(0, .ref b0), (1, .ref (a 0)), (2, .ref (b 0)), (3, .ref o), (4, .int i), (5, .int ((zw_points w (xs (i + 1).toNatClampNeg)).1))]) [1, 2, 3, 4, 5, 0] dL_law_929 (by decide) rfl rfl ?_
  refine zj_aload_n 932 X 2 dL_law_931 rfl rfl ?_
  refine zj_aload_n 933 X 0 dL_law_932 rfl rfl ?_
  refine zj_iload 935 X 4 dL_law_933 rfl rfl ?_
  refine zj_iconst 936 X (v := 1) dL_law_935 (by decide) rfl ?_
  refine zj_iadd 937 X dL_law_936 rfl ?_
  refine zj_sld 938 X hX hbl hbA h1 dL_law_937 rfl ?_
  refine zc_ifl 941 (wc := zM C b v) (wr := zWo C a o (zw_points w (xs (i + 1).toNatClampNeg)).2) (Wd := zM C b) (v := zf_X5_points v (xs (i + 1).toNatClampNeg)) (mc := 0) (ms := 0) (zr_Vm (As := [.int (xs (i + 1).toNatClampNeg)]) (rest := []) X (zc_X5_points (l := l) (D := D) (C := C) (a := b) (v := v) (p0 := (xs (i + 1).toNatClampNeg)) ) zw_L_144 zn_X5_points (zcR_k rfl (by omega) (by omega)) zO_M (zD_l (hD v w)) hA rfl (Nat.le_of_ble_eq_true rfl) dL_law_938) (hD _ _) hA rfl ?_
  refine zj_istore 943 X (lv1 := [(0, .ref b0), (1, .ref (a 0)), (2, .ref (b 0)), (3, .ref o), (4, .int i), (5, .int ((zw_points w (xs (i + 1).toNatClampNeg)).1)), (6, .int ((zf_X5_points v (xs (i + 1).toNatClampNeg)).1))]) [1, 2, 3, 4, 5, 6, 0] dL_law_941 (by decide) rfl rfl ?_
  refine zj_aload_n 944 X 2 dL_law_943 rfl rfl ?_
  refine zc_i 947 (zr_V (As := []) (rest := []) (wsub := zM C b (zf_X5_points v (xs (i + 1).toNatClampNeg)).2) X (zc_X5_thrown (l := l) (D := D) (C := C) (a := b) (v := (zf_X5_points v (xs (i + 1).toNatClampNeg)).2)) zw_L_81 zn_X5_thrown (zcR_k rfl (by omega) (by omega)) (zcO_l zO_M) (fun H h => zP_l h) rfl (Nat.le_of_ble_eq_true rfl) dL_law_944) rfl ?_
  refine zj_iload 949 X 5 dL_law_947 rfl rfl ?_
  refine zj_icmp_eq 952 954 X dL_law_949 (by decide) rfl (fun _ => ?_) (fun h => absurd s1.symm h)
  refine zj_iload 956 X 5 dL_law_954 rfl rfl ?_
  refine zj_join 971 [(0, .ref b0), (1, .ref (a 0)), (2, .ref (b 0)), (3, .ref o), (4, .int i), (5, .int ((zw_points w (xs (i + 1).toNatClampNeg)).1)), (6, .int ((zf_X5_points v (xs (i + 1).toNatClampNeg)).1))] [] ?_ (fun J1 => ?_)
  · refine zj_goto 1130 X dL_law_971 (by decide) ?_
    refine zj_widen (cells + 2) (slots + 12) (by omega) (by omega) ?_
    refine zj_lv [0, 1, 2, 3, 4] (lv1 := [(0, .ref b0), (1, .ref (a 0)), (2, .ref (b 0)), (3, .ref o), (4, .int i)]) rfl ?_
    exact kk _ _ s3
  refine zj_if_ne 959 971 X dL_law_956 (by decide) rfl (fun _ => J1) (fun h0 => ?_)
  refine zj_aload_n 960 X 3 dL_law_959 rfl rfl ?_
  refine zj_iconst 961 X (v := 0) dL_law_960 (by decide) rfl ?_
  refine zl_out 962 X dL_law_961 rfl ?_
  refine zj_iload 964 X 6 dL_law_962 rfl rfl ?_
  refine zj_i2l 965 X dL_law_964 rfl rfl ?_
  refine zj_lcmp 966 X dL_law_965 rfl ?_
  exact zj_if_eq 969 971 X dL_law_966 (by decide) rfl (fun _ => J1) (fun h => absurd (zlc_eq (s2 h0)) h)
set_option maxHeartbeats 4000000 in
set_option maxRecDepth 100000 in
theorem zLc_19_tricks {p : Program} {l : Launch} {e : Env} {s : State} {m : MethodId} {below : List Frame} {meth : Method} {c : Code} {cells slots : Nat} {Q : State → Prop} {D : va_G} {C : ClassId × ClassId} {A : Nat → Prop} {b0 L : Nat} {xs : Nat → Int32} {a b : Nat → Nat} {o : Nat} (hfl : l.stackTraces = false) (F : zLX p s m c D C A b0 L xs) (hD : ∀ (v : zN) (w : zU × (Nat → Int64)), va_D A (zM C b v ++ zWo C a o w)) {n : Nat} {v : zN} {w : zU × (Nat → Int64)} {i : Int32} (hR : zRel n w.1 v) (hn : n < 600) (hc : cells + 2 ≤ 1060) (hs : slots + 12 ≤ 8453) (h1 : vp_in (i + 1) L) (h2 : vp_in (i + 2) L)
    (kk : ∀ (v' : zN) (w' : zU × (Nat → Int64)), zRel (n + 1) w'.1 v' → zJ p l e room_1 s m #[Value.ref b0] below meth c (cells + 2) (slots + 12) Q D (zk_Km A s) 8 (zM C b v' ++ zWo C a o w') 1130 [(0, .ref b0), (1, .ref (a 0)), (2, .ref (b 0)), (3, .ref o), (4, .int i)] []) : zJ p l e room_1 s m #[Value.ref b0] below meth c cells slots Q D (zk_Km A s) 8 (zM C b v ++ zWo C a o w) 974 [(0, .ref b0), (1, .ref (a 0)), (2, .ref (b 0)), (3, .ref o), (4, .int i)] [] := by
  obtain ⟨X, hX, hbl, hbA, hA, -⟩ := F
  obtain ⟨s1, s2, s3⟩ := zSo_tricks (w := w) (p0 := (xs (i + 1).toNatClampNeg)) hR hn
  refine zj_aload_n 975 X 1 dL_law_974 rfl rfl ?_
  refine zj_aload_n 976 X 0 dL_law_975 rfl rfl ?_
  refine zj_iload 978 X 4 dL_law_976 rfl rfl ?_
  refine zj_iconst 979 X (v := 1) dL_law_978 (by decide) rfl ?_
  refine zj_iadd 980 X dL_law_979 rfl ?_
  refine zj_sld 981 X hX hbl hbA h1 dL_law_980 rfl ?_
  refine zj_aload_n 982 X 3 dL_law_981 rfl rfl ?_
  refine zc_ifr 985 (wr := zM C b v) (wc := zWo C a o w) (Wd := zWo C a o) (v := zw_tricks w (xs (i + 1).toNatClampNeg)) (mc := 1) (ms := 6) (zr_Sw (n := 3) (As := [.ref (a 0), .int (xs (i + 1).toNatClampNeg), .ref o]) (rest := []) X (zc_L_tricks (l := l) (D := D) (C := C) (a := a) (o := o) (w := w) (p0 := (xs (i + 1).toNatClampNeg)) hfl) (zG_t 578 (by decide +kernel) rfl) (zG_t 579 (by decide +kernel) rfl) (zG_t 0 (by decide +kernel) rfl) (zG_t 580 (by decide +kernel) rfl) ⟨by decide +kernel, by decide +kernel, by decide +kernel⟩ (zcR_k rfl (by omega) (by omega)) (zD_r (hD v w)) hA rfl (Nat.le_of_ble_eq_true rfl) dL_law_982) (hD _ _) hA rfl ?_
  refine zj_istore 987 X (lv1 := [(0, .ref b0), (1, .ref (a 0)), (2, .ref (b 0)), (3, .ref o), (4, .int i), (5, .int ((zw_tricks w (xs (i + 1).toNatClampNeg)).1))]) [1, 2, 3, 4, 5, 0] dL_law_985 (by decide) rfl rfl ?_
  refine zj_aload_n 988 X 2 dL_law_987 rfl rfl ?_
  refine zj_aload_n 989 X 0 dL_law_988 rfl rfl ?_
  refine zj_iload 991 X 4 dL_law_989 rfl rfl ?_
  refine zj_iconst 992 X (v := 1) dL_law_991 (by decide) rfl ?_
  refine zj_iadd 993 X dL_law_992 rfl ?_
  refine zj_sld 994 X hX hbl hbA h1 dL_law_993 rfl ?_
  refine zc_ifl 997 (wc := zM C b v) (wr := zWo C a o (zw_tricks w (xs (i + 1).toNatClampNeg)).2) (Wd := zM C b) (v := zf_X5_tricks v (xs (i + 1).toNatClampNeg)) (mc := 0) (ms := 0) (zr_Vm (As := [.int (xs (i + 1).toNatClampNeg)]) (rest := []) X (zc_X5_tricks (l := l) (D := D) (C := C) (a := b) (v := v) (p0 := (xs (i + 1).toNatClampNeg)) ) zw_L_147 zn_X5_tricks (zcR_k rfl (by omega) (by omega)) zO_M (zD_l (hD v w)) hA rfl (Nat.le_of_ble_eq_true rfl) dL_law_994) (hD _ _) hA rfl ?_
  refine zj_istore 999 X (lv1 := [(0, .ref b0), (1, .ref (a 0)), (2, .ref (b 0)), (3, .ref o), (4, .int i), (5, .int ((zw_tricks w (xs (i + 1).toNatClampNeg)).1)), (6, .int ((zf_X5_tricks v (xs (i + 1).toNatClampNeg)).1))]) [1, 2, 3, 4, 5, 6, 0] dL_law_997 (by decide) rfl rfl ?_
  refine zj_aload_n 1000 X 2 dL_law_999 rfl rfl ?_
  refine zc_i 1003 (zr_V (As := []) (rest := []) (wsub := zM C b (zf_X5_tricks v (xs (i + 1).toNatClampNeg)).2) X (zc_X5_thrown (l := l) (D := D) (C := C) (a := b) (v := (zf_X5_tricks v (xs (i + 1).toNatClampNeg)).2)) zw_L_81 zn_X5_thrown (zcR_k rfl (by omega) (by omega)) (zcO_l zO_M) (fun H h => zP_l h) rfl (Nat.le_of_ble_eq_true rfl) dL_law_1000) rfl ?_
  refine zj_iload 1005 X 5 dL_law_1003 rfl rfl ?_
  refine zj_icmp_eq 1008 1010 X dL_law_1005 (by decide) rfl (fun _ => ?_) (fun h => absurd s1.symm h)
  refine zj_iload 1012 X 5 dL_law_1010 rfl rfl ?_
  refine zj_join 1027 [(0, .ref b0), (1, .ref (a 0)), (2, .ref (b 0)), (3, .ref o), (4, .int i), (5, .int ((zw_tricks w (xs (i + 1).toNatClampNeg)).1)), (6, .int ((zf_X5_tricks v (xs (i + 1).toNatClampNeg)).1))] [] ?_ (fun J1 => ?_)
  · refine zj_goto 1130 X dL_law_1027 (by decide) ?_
    refine zj_widen (cells + 2) (slots + 12) (by omega) (by omega) ?_
    refine zj_lv [0, 1, 2, 3, 4] (lv1 := [(0, .ref b0), (1, .ref (a 0)), (2, .ref (b 0)), (3, .ref o), (4, .int i)]) rfl ?_
    exact kk _ _ s3
  refine zj_if_ne 1015 1027 X dL_law_1012 (by decide) rfl (fun _ => J1) (fun h0 => ?_)
  refine zj_aload_n 1016 X 3 dL_law_1015 rfl rfl ?_
  refine zj_iconst 1017 X (v := 0) dL_law_1016 (by decide) rfl ?_
  refine zl_out 1018 X dL_law_1017 rfl ?_
  refine zj_iload 1020 X 6 dL_law_1018 rfl rfl ?_
  refine zj_i2l 1021 X dL_law_1020 rfl rfl ?_
  refine zj_lcmp 1022 X dL_law_1021 rfl ?_
  exact zj_if_eq 1025 1027 X dL_law_1022 (by decide) rfl (fun _ => J1) (fun h => absurd (zlc_eq (s2 h0)) h)
set_option maxHeartbeats 4000000 in
set_option maxRecDepth 100000 in
theorem zLc_20_value {p : Program} {l : Launch} {e : Env} {s : State} {m : MethodId} {below : List Frame} {meth : Method} {c : Code} {cells slots : Nat} {Q : State → Prop} {D : va_G} {C : ClassId × ClassId} {A : Nat → Prop} {b0 L : Nat} {xs : Nat → Int32} {a b : Nat → Nat} {o : Nat} (hfl : l.stackTraces = false) (F : zLX p s m c D C A b0 L xs) (hD : ∀ (v : zN) (w : zU × (Nat → Int64)), va_D A (zM C b v ++ zWo C a o w)) {n : Nat} {v : zN} {w : zU × (Nat → Int64)} {i : Int32} (hR : zRel n w.1 v) (hn : n < 600) (hc : cells + 2 ≤ 1060) (hs : slots + 12 ≤ 8453) (h1 : vp_in (i + 1) L) (h2 : vp_in (i + 2) L)
    (kk : ∀ (v' : zN) (w' : zU × (Nat → Int64)), zRel (n + 1) w'.1 v' → zJ p l e room_1 s m #[Value.ref b0] below meth c (cells + 2) (slots + 12) Q D (zk_Km A s) 8 (zM C b v' ++ zWo C a o w') 1130 [(0, .ref b0), (1, .ref (a 0)), (2, .ref (b 0)), (3, .ref o), (4, .int i)] []) : zJ p l e room_1 s m #[Value.ref b0] below meth c cells slots Q D (zk_Km A s) 8 (zM C b v ++ zWo C a o w) 1030 [(0, .ref b0), (1, .ref (a 0)), (2, .ref (b 0)), (3, .ref o), (4, .int i)] [] := by
  obtain ⟨X, hX, hbl, hbA, hA, -⟩ := F
  obtain ⟨s1, s2, s3⟩ := zSo_value (w := w) hR hn
  refine zj_aload_n 1031 X 1 dL_law_1030 rfl rfl ?_
  refine zj_aload_n 1032 X 3 dL_law_1031 rfl rfl ?_
  refine zc_ifr 1035 (wr := zM C b v) (wc := zWo C a o w) (Wd := zWo C a o) (v := zw_value w) (mc := 1) (ms := 6) (zr_Sw (n := 2) (As := [.ref (a 0), .ref o]) (rest := []) X (zc_L_value (l := l) (D := D) (C := C) (a := a) (o := o) (w := w) hfl) (zG_t 585 (by decide +kernel) rfl) (zG_t 586 (by decide +kernel) rfl) (zG_t 0 (by decide +kernel) rfl) (zG_t 587 (by decide +kernel) rfl) ⟨by decide +kernel, by decide +kernel, by decide +kernel⟩ (zcR_k rfl (by omega) (by omega)) (zD_r (hD v w)) hA rfl (Nat.le_of_ble_eq_true rfl) dL_law_1032) (hD _ _) hA rfl ?_
  refine zj_istore 1037 X (lv1 := [(0, .ref b0), (1, .ref (a 0)), (2, .ref (b 0)), (3, .ref o), (4, .int i), (5, .int ((zw_value w).1))]) [1, 2, 3, 4, 5, 0] dL_law_1035 (by decide) rfl rfl ?_
  refine zj_aload_n 1038 X 2 dL_law_1037 rfl rfl ?_
  refine zc_ifl 1041 (wc := zM C b v) (wr := zWo C a o (zw_value w).2) (Wd := zM C b) (v := zf_X5_value v) (mc := 0) (ms := 0) (zr_Vm (As := []) (rest := []) X (zc_X5_value (l := l) (D := D) (C := C) (a := b) (v := v) (hE := fun h h1 => zRel_Ev hR h h1) (hB := zRel_B hR)) zw_L_150 zn_X5_value (zcR_k rfl (by omega) (by omega)) zO_M (zD_l (hD v w)) hA rfl (Nat.le_of_ble_eq_true rfl) dL_law_1038) (hD _ _) hA rfl ?_
  refine zj_istore 1043 X (lv1 := [(0, .ref b0), (1, .ref (a 0)), (2, .ref (b 0)), (3, .ref o), (4, .int i), (5, .int ((zw_value w).1)), (6, .int ((zf_X5_value v).1))]) [1, 2, 3, 4, 5, 6, 0] dL_law_1041 (by decide) rfl rfl ?_
  refine zj_aload_n 1044 X 2 dL_law_1043 rfl rfl ?_
  refine zc_i 1047 (zr_V (As := []) (rest := []) (wsub := zM C b (zf_X5_value v).2) X (zc_X5_thrown (l := l) (D := D) (C := C) (a := b) (v := (zf_X5_value v).2)) zw_L_81 zn_X5_thrown (zcR_k rfl (by omega) (by omega)) (zcO_l zO_M) (fun H h => zP_l h) rfl (Nat.le_of_ble_eq_true rfl) dL_law_1044) rfl ?_
  refine zj_iload 1049 X 5 dL_law_1047 rfl rfl ?_
  refine zj_icmp_eq 1052 1054 X dL_law_1049 (by decide) rfl (fun _ => ?_) (fun h => absurd s1.symm h)
  refine zj_iload 1056 X 5 dL_law_1054 rfl rfl ?_
  refine zj_join 1071 [(0, .ref b0), (1, .ref (a 0)), (2, .ref (b 0)), (3, .ref o), (4, .int i), (5, .int ((zw_value w).1)), (6, .int ((zf_X5_value v).1))] [] ?_ (fun J1 => ?_)
  · refine zj_goto 1130 X dL_law_1071 (by decide) ?_
    refine zj_widen (cells + 2) (slots + 12) (by omega) (by omega) ?_
    refine zj_lv [0, 1, 2, 3, 4] (lv1 := [(0, .ref b0), (1, .ref (a 0)), (2, .ref (b 0)), (3, .ref o), (4, .int i)]) rfl ?_
    exact kk _ _ s3
  refine zj_if_ne 1059 1071 X dL_law_1056 (by decide) rfl (fun _ => J1) (fun h0 => ?_)
  refine zj_aload_n 1060 X 3 dL_law_1059 rfl rfl ?_
  refine zj_iconst 1061 X (v := 0) dL_law_1060 (by decide) rfl ?_
  refine zl_out 1062 X dL_law_1061 rfl ?_
  refine zj_iload 1064 X 6 dL_law_1062 rfl rfl ?_
  refine zj_i2l 1065 X dL_law_1064 rfl rfl ?_
  refine zj_lcmp 1066 X dL_law_1065 rfl ?_
  exact zj_if_eq 1069 1071 X dL_law_1066 (by decide) rfl (fun _ => J1) (fun h => absurd (zlc_eq (s2 h0)) h)
set_option maxHeartbeats 4000000 in
set_option maxRecDepth 100000 in
theorem zLc_21_score {p : Program} {l : Launch} {e : Env} {s : State} {m : MethodId} {below : List Frame} {meth : Method} {c : Code} {cells slots : Nat} {Q : State → Prop} {D : va_G} {C : ClassId × ClassId} {A : Nat → Prop} {b0 L : Nat} {xs : Nat → Int32} {a b : Nat → Nat} {o : Nat} (hfl : l.stackTraces = false) (F : zLX p s m c D C A b0 L xs) (hD : ∀ (v : zN) (w : zU × (Nat → Int64)), va_D A (zM C b v ++ zWo C a o w)) {n : Nat} {v : zN} {w : zU × (Nat → Int64)} {i : Int32} (hR : zRel n w.1 v) (hn : n < 600) (hc : cells + 2 ≤ 1060) (hs : slots + 12 ≤ 8453) (h1 : vp_in (i + 1) L) (h2 : vp_in (i + 2) L)
    (kk : ∀ (v' : zN) (w' : zU × (Nat → Int64)), zRel (n + 1) w'.1 v' → zJ p l e room_1 s m #[Value.ref b0] below meth c (cells + 2) (slots + 12) Q D (zk_Km A s) 8 (zM C b v' ++ zWo C a o w') 1130 [(0, .ref b0), (1, .ref (a 0)), (2, .ref (b 0)), (3, .ref o), (4, .int i)] []) : zJ p l e room_1 s m #[Value.ref b0] below meth c cells slots Q D (zk_Km A s) 8 (zM C b v ++ zWo C a o w) 1074 [(0, .ref b0), (1, .ref (a 0)), (2, .ref (b 0)), (3, .ref o), (4, .int i)] [] := by
  obtain ⟨X, hX, hbl, hbA, hA, -⟩ := F
  obtain ⟨s1, s2, s3⟩ := zSo_score (w := w) (p0 := (xs (i + 1).toNatClampNeg)) hR hn
  refine zj_aload_n 1075 X 1 dL_law_1074 rfl rfl ?_
  refine zj_aload_n 1076 X 0 dL_law_1075 rfl rfl ?_
  refine zj_iload 1078 X 4 dL_law_1076 rfl rfl ?_
  refine zj_iconst 1079 X (v := 1) dL_law_1078 (by decide) rfl ?_
  refine zj_iadd 1080 X dL_law_1079 rfl ?_
  refine zj_sld 1081 X hX hbl hbA h1 dL_law_1080 rfl ?_
  refine zj_aload_n 1082 X 3 dL_law_1081 rfl rfl ?_
  refine zc_ifr 1085 (wr := zM C b v) (wc := zWo C a o w) (Wd := zWo C a o) (v := zw_score w (xs (i + 1).toNatClampNeg)) (mc := 1) (ms := 6) (zr_Sw (n := 3) (As := [.ref (a 0), .int (xs (i + 1).toNatClampNeg), .ref o]) (rest := []) X (zc_L_score (l := l) (D := D) (C := C) (a := a) (o := o) (w := w) (p0 := (xs (i + 1).toNatClampNeg)) hfl) (zG_t 593 (by decide +kernel) rfl) (zG_t 594 (by decide +kernel) rfl) (zG_t 0 (by decide +kernel) rfl) (zG_t 595 (by decide +kernel) rfl) ⟨by decide +kernel, by decide +kernel, by decide +kernel⟩ (zcR_k rfl (by omega) (by omega)) (zD_r (hD v w)) hA rfl (Nat.le_of_ble_eq_true rfl) dL_law_1082) (hD _ _) hA rfl ?_
  refine zj_istore 1087 X (lv1 := [(0, .ref b0), (1, .ref (a 0)), (2, .ref (b 0)), (3, .ref o), (4, .int i), (5, .int ((zw_score w (xs (i + 1).toNatClampNeg)).1))]) [1, 2, 3, 4, 5, 0] dL_law_1085 (by decide) rfl rfl ?_
  refine zj_aload_n 1088 X 2 dL_law_1087 rfl rfl ?_
  refine zj_aload_n 1089 X 0 dL_law_1088 rfl rfl ?_
  refine zj_iload 1091 X 4 dL_law_1089 rfl rfl ?_
  refine zj_iconst 1092 X (v := 1) dL_law_1091 (by decide) rfl ?_
  refine zj_iadd 1093 X dL_law_1092 rfl ?_
  refine zj_sld 1094 X hX hbl hbA h1 dL_law_1093 rfl ?_
  refine zc_ifl 1097 (wc := zM C b v) (wr := zWo C a o (zw_score w (xs (i + 1).toNatClampNeg)).2) (Wd := zM C b) (v := zf_X5_score v (xs (i + 1).toNatClampNeg)) (mc := 0) (ms := 0) (zr_Vm (As := [.int (xs (i + 1).toNatClampNeg)]) (rest := []) X (zc_X5_score (l := l) (D := D) (C := C) (a := b) (v := v) (p0 := (xs (i + 1).toNatClampNeg)) ) zw_L_153 zn_X5_score (zcR_k rfl (by omega) (by omega)) zO_M (zD_l (hD v w)) hA rfl (Nat.le_of_ble_eq_true rfl) dL_law_1094) (hD _ _) hA rfl ?_
  refine zj_istore 1099 X (lv1 := [(0, .ref b0), (1, .ref (a 0)), (2, .ref (b 0)), (3, .ref o), (4, .int i), (5, .int ((zw_score w (xs (i + 1).toNatClampNeg)).1)), (6, .int ((zf_X5_score v (xs (i + 1).toNatClampNeg)).1))]) [1, 2, 3, 4, 5, 6, 0] dL_law_1097 (by decide) rfl rfl ?_
  refine zj_aload_n 1100 X 2 dL_law_1099 rfl rfl ?_
  refine zc_i 1103 (zr_V (As := []) (rest := []) (wsub := zM C b (zf_X5_score v (xs (i + 1).toNatClampNeg)).2) X (zc_X5_thrown (l := l) (D := D) (C := C) (a := b) (v := (zf_X5_score v (xs (i + 1).toNatClampNeg)).2)) zw_L_81 zn_X5_thrown (zcR_k rfl (by omega) (by omega)) (zcO_l zO_M) (fun H h => zP_l h) rfl (Nat.le_of_ble_eq_true rfl) dL_law_1100) rfl ?_
  refine zj_iload 1105 X 5 dL_law_1103 rfl rfl ?_
  refine zj_icmp_eq 1108 1110 X dL_law_1105 (by decide) rfl (fun _ => ?_) (fun h => absurd s1.symm h)
  refine zj_iload 1112 X 5 dL_law_1110 rfl rfl ?_
  refine zj_join 1127 [(0, .ref b0), (1, .ref (a 0)), (2, .ref (b 0)), (3, .ref o), (4, .int i), (5, .int ((zw_score w (xs (i + 1).toNatClampNeg)).1)), (6, .int ((zf_X5_score v (xs (i + 1).toNatClampNeg)).1))] [] ?_ (fun J1 => ?_)
  · refine zj_goto 1130 X dL_law_1127 (by decide) ?_
    refine zj_widen (cells + 2) (slots + 12) (by omega) (by omega) ?_
    refine zj_lv [0, 1, 2, 3, 4] (lv1 := [(0, .ref b0), (1, .ref (a 0)), (2, .ref (b 0)), (3, .ref o), (4, .int i)]) rfl ?_
    exact kk _ _ s3
  refine zj_if_ne 1115 1127 X dL_law_1112 (by decide) rfl (fun _ => J1) (fun h0 => ?_)
  refine zj_aload_n 1116 X 3 dL_law_1115 rfl rfl ?_
  refine zj_iconst 1117 X (v := 0) dL_law_1116 (by decide) rfl ?_
  refine zl_out 1118 X dL_law_1117 rfl ?_
  refine zj_iload 1120 X 6 dL_law_1118 rfl rfl ?_
  refine zj_i2l 1121 X dL_law_1120 rfl rfl ?_
  refine zj_lcmp 1122 X dL_law_1121 rfl ?_
  exact zj_if_eq 1125 1127 X dL_law_1122 (by decide) rfl (fun _ => J1) (fun h => absurd (zlc_eq (s2 h0)) h)
/-! THE CLAIM OUT OF ONE WALK OF THE LAW'S BODY. Your part is whole_start (and what it stands on); all else here is the same for every law, but numbers. -/
def R_law : String := "SkatMillLaw"
def lw_P (b : Addr) (xs : List Int32) (args : Array Value) (s : State) : Prop := args = #[.ref b] ∧ s.IntsAt b xs ∧ xs.length ≤ 1536 ∧ (Jvm.Cond.and given_1 narrow_1).before args s = true
def lw_Q (_ : Array Value) (s : State) (o : Outcome) (t : State) : Prop := o = .returned (some (.int 1)) ∧ Framed s o t [] 1060 8453
def lw_Z (below : List Frame) (a : Array Value) (s : State) : State → Prop := fun t => ∃ o, t.status = .running ∧ Ended t below o ∧ lw_Q a s o t
/-- the law's own end, with 1 on the stack, nothing written that was there before, its room as the claim has it -/
theorem lw_ret {p : Program} {l : Launch} {e : Env} {s : State} {m : MethodId} {below : List Frame} {meth : Method} {c : Code} {b : Nat} (hx : p.tables.exec = Jvm.exec) (hb : c.code = code) (hr : meth.sig.returnType = ret) (hlocks : meth.locks = false) {pc : Nat} {H : Heap} {ls : Array Slot} (hdg : decode code pc = .ok (.ireturn, 1)) : W p l e room_1 s m #[Value.ref b] below meth c H [] 1060 8453 (lw_Z below #[Value.ref b] s) (F0 m pc ls [.int 1]) := by
  intro T hT X
  obtain ⟨fs, hret, hrun, hended, hW, hframe⟩ := X.leave (v := some (.int 1)) (hlocks := hlocks) (fun h => by rw [hr] at h; cases h)
  have hmeth' : T.vm.method? m = some meth := X.method'
  refine ⟨T.setFrames fs, ?_, .returned (some (.int 1)), hrun, hended, rfl, ⟨_, rfl⟩, hW, hframe⟩
  jvm_step X.here [X.here.top, hx, hb, hdg, hmeth', hr, ret, narrow_b1]
  (try refine ⟨rfl, ?_⟩); (try refine ⟨rfl, ?_⟩)
  first | (intro acts; rw [hret _ acts rfl rfl rfl]) | rw [hret _ _ rfl rfl rfl]
  exact Steps.refl _
/-- what holds at the law's entry: the machine, the code, the tables' words (any of lw_tbl by 'hts w (by decide +kernel)'), the script of L ints xs at the cell b, what the Statement gives of the start (any of its parts by flat_of_before) -/
def lw_At (p : Program) (s : State) (m : MethodId) (meth : Method) (c : Code) (b L : Nat) (xs : Nat → Int32) : Prop :=
  p.tables.exec = Jvm.exec ∧ c.code = code ∧ meth.sig.returnType = ret ∧ c.maxLocals = 8 ∧ s.vm.findClass R_law = some m.cls ∧ (∀ w ∈ lw_tbl, w.before #[Value.ref b] s = true) ∧ va_X b L xs s s.heap ∧ b < s.heap.size ∧ meth.locks = false ∧ (Jvm.Cond.and given_1 narrow_1).before #[Value.ref b] s = true
theorem zsw (x : Int32) : ∃ t : Nat, t < 32 ∧ x &&& 31 = nI t := pk_andE x 5 (by decide)
theorem zLidx {L j d : Nat} {i : Int32} (hL : L ≤ 1536) (hi : i = nI (3 * j)) (hd : d ≤ 2) (hj : 3 * j + 3 ≤ L) : vp_in (i + nI d) L := by
  subst hi
  rw [nI_add]
  exact vp_in_nI (by omega) (by omega)
theorem zLidx0 {L j : Nat} {i : Int32} (hL : L ≤ 1536) (hi : i = nI (3 * j)) (hj : 3 * j + 3 ≤ L) : vp_in i L := by
  subst hi
  exact vp_in_nI (by omega) (by omega)
theorem zLfor {L j : Nat} {i : Int32} (hL : L ≤ 1536) (hj0 : j ≤ 512) (hi : i = nI (3 * j)) (h : ¬ Int32.ofNat L - 3 < i) : 3 * j + 3 ≤ L := by
  subst hi
  refine Nat.not_lt.mp (fun h1 => h ?_)
  show nI L - nI 3 < nI (3 * j)
  rw [Int32.lt_iff_toInt_lt, pk_sub_toInt (by omega) (by omega), nI_toInt (by omega)]
  omega
theorem zLnx {j : Nat} {i : Int32} (hi : i = nI (3 * j)) : i + 3 = nI (3 * (j + 1)) := by
  subst hi
  exact nI_add _ 3
set_option maxHeartbeats 4000000 in
set_option maxRecDepth 100000 in
theorem zL_end {p : Program} {l : Launch} {e : Env} {s : State} {m : MethodId} {below : List Frame} {meth : Method} {c : Code} {D : va_G} {C : ClassId × ClassId} {A : Nat → Prop} {b0 L : Nat} {xs : Nat → Int32} {a b : Nat → Nat} {o : Nat} {cells slots : Nat} (F : zLX p s m c D C A b0 L xs) (hr : meth.sig.returnType = ret) (hk : meth.locks = false) {v : zN} {w : zU × (Nat → Int64)} {i : Int32} (hc : cells ≤ 1060) (hs : slots ≤ 8453) : zJ p l e room_1 s m #[Value.ref b0] below meth c cells slots (lw_Z below #[Value.ref b0] s) D (zk_Km A s) 8 (zM C b v ++ zWo C a o w) 1136 [(0, .ref b0), (1, .ref (a 0)), (2, .ref (b 0)), (3, .ref o), (4, .int i)] [] := by
  obtain ⟨X, hX, hbl, hbA, hA, hA2⟩ := F
  refine zj_iconst 1137 X (v := 1) dL_law_1136 (by decide) rfl ?_
  exact fun H locs ls hP hK hl => va_forget (fun q hq => hA2 _ (hK.2.2 q hq)) (W.widen hc hs (lw_ret X.1.1 X.1.2.1 hr hk dL_law_1137))
set_option maxHeartbeats 4000000 in
set_option maxRecDepth 100000 in
theorem zL_step {p : Program} {l : Launch} {e : Env} {s : State} {m : MethodId} {below : List Frame} {meth : Method} {c : Code} {D : va_G} {C : ClassId × ClassId} {A : Nat → Prop} {b0 L : Nat} {xs : Nat → Int32} {a b : Nat → Nat} {o : Nat} (hL : L ≤ 1536) (hfl : l.stackTraces = false) (F : zLX p s m c D C A b0 L xs) (hD : ∀ (v : zN) (w : zU × (Nat → Int64)), va_D A (zM C b v ++ zWo C a o w)) (hr : meth.sig.returnType = ret) (hk : meth.locks = false) (j : Nat) (v : zN) (w : zU × (Nat → Int64)) (i : Int32) (hj : j ≤ 512) (hi : i = nI (3 * j)) (hR : zRel j w.1 v)
    (ih : j ≤ 511 → ∀ (v' : zN) (w' : zU × (Nat → Int64)), zRel (j + 1) w'.1 v' → zJ p l e room_1 s m #[Value.ref b0] below meth c (34 + 2 * j + 2) (2297 + 12 * j + 12) (lw_Z below #[Value.ref b0] s) D (zk_Km A s) 8 (zM C b v' ++ zWo C a o w') 23 [(0, .ref b0), (1, .ref (a 0)), (2, .ref (b 0)), (3, .ref o), (4, .int (i + 3))] []) : zJ p l e room_1 s m #[Value.ref b0] below meth c (34 + 2 * j) (2297 + 12 * j) (lw_Z below #[Value.ref b0] s) D (zk_Km A s) 8 (zM C b v ++ zWo C a o w) 23 [(0, .ref b0), (1, .ref (a 0)), (2, .ref (b 0)), (3, .ref o), (4, .int i)] [] := by
  obtain ⟨X, hX, hbl, hbA, hA, hA2⟩ := id F
  refine zj_iload 25 X 4 dL_law_23 rfl rfl ?_
  refine zj_aload_n 26 X 0 dL_law_25 rfl rfl ?_
  refine zj_slen 27 X hX hbl hbA dL_law_26 rfl ?_
  refine zj_iconst 28 X (v := 3) dL_law_27 (by decide) rfl ?_
  refine zj_isub 29 X dL_law_28 rfl ?_
  refine zj_icmp_gt 32 1136 X dL_law_29 (by decide) rfl (fun _ => zL_end F hr hk (by omega) (by omega)) (fun hlt => ?_)
  have h3 := zLfor hL (by omega) hi hlt
  refine zj_aload_n 33 X 0 dL_law_32 rfl rfl ?_
  refine zj_iload 35 X 4 dL_law_33 rfl rfl ?_
  refine zj_sld 36 X hX hbl hbA (zLidx0 hL hi h3) dL_law_35 rfl ?_
  refine zj_bipush 38 X (v := 31) dL_law_36 (by decide) rfl ?_
  refine zj_iand 39 X dL_law_38 rfl ?_
  have kk : ∀ (v' : zN) (w' : zU × (Nat → Int64)), zRel (j + 1) w'.1 v' → zJ p l e room_1 s m #[Value.ref b0] below meth c (34 + 2 * j + 2) (2297 + 12 * j + 12) (lw_Z below #[Value.ref b0] s) D (zk_Km A s) 8 (zM C b v' ++ zWo C a o w') 1130 [(0, .ref b0), (1, .ref (a 0)), (2, .ref (b 0)), (3, .ref o), (4, .int i)] [] := by
    intro v' w' hR'
    refine zj_iinc 1133 X (v := i + 3) (lv1 := [(0, .ref b0), (1, .ref (a 0)), (2, .ref (b 0)), (3, .ref o), (4, .int (i + 3))]) 4 [1, 2, 3, 4, 0] dL_law_1130 rfl rfl (by decide) rfl rfl ?_
    refine zj_goto 23 X dL_law_1133 (by decide) ?_
    exact ih (by omega) v' w' hR'
  have h1 : vp_in (i + 1) L := zLidx (d := 1) hL hi (by decide) h3
  have h2 : vp_in (i + 2) L := zLidx (d := 2) hL hi (by decide) h3
  obtain ⟨t, ht, hx⟩ := zsw (xs i.toNatClampNeg)
  rw [hx]
  have hRn : zRel (j + 1) w.1 v := zRel_le hR (by omega)
  rcases t with _ | _ | _ | _ | _ | _ | _ | _ | _ | _ | _ | _ | _ | _ | _ | _ | _ | _ | _ | _ | _ | _ | _ | _ | _ | _ | _ | _ | _ | _ | _ | _ | t
  · exact zj_tin 140 X (off := 101) dL_law_39 (by decide) (by decide) (by decide) (by decide) (zLc_0_deal hfl F hD hR (by omega) (by omega) (by omega) h1 h2 kk)
  · exact zj_tin 196 X (off := 157) dL_law_39 (by decide) (by decide) (by decide) (by decide) (zLc_1_phase hfl F hD hR (by omega) (by omega) (by omega) h1 h2 kk)
  · exact zj_tin 209 X (off := 170) dL_law_39 (by decide) (by decide) (by decide) (by decide) (zLc_2_onTurn hfl F hD hR (by omega) (by omega) (by omega) h1 h2 kk)
  · exact zj_tin 222 X (off := 183) dL_law_39 (by decide) (by decide) (by decide) (by decide) (zLc_3_bid hfl F hD hR (by omega) (by omega) (by omega) h1 h2 kk)
  · exact zj_tin 278 X (off := 239) dL_law_39 (by decide) (by decide) (by decide) (by decide) (zLc_4_hold hfl F hD hR (by omega) (by omega) (by omega) h1 h2 kk)
  · exact zj_tin 322 X (off := 283) dL_law_39 (by decide) (by decide) (by decide) (by decide) (zLc_5_pass hfl F hD hR (by omega) (by omega) (by omega) h1 h2 kk)
  · exact zj_tin 366 X (off := 327) dL_law_39 (by decide) (by decide) (by decide) (by decide) (zLc_6_latestBid hfl F hD hR (by omega) (by omega) (by omega) h1 h2 kk)
  · exact zj_tin 379 X (off := 340) dL_law_39 (by decide) (by decide) (by decide) (by decide) (zLc_7_nextBid hfl F hD hR (by omega) (by omega) (by omega) h1 h2 kk)
  · exact zj_tin 435 X (off := 396) dL_law_39 (by decide) (by decide) (by decide) (by decide) (zLc_8_declarer hfl F hD hR (by omega) (by omega) (by omega) h1 h2 kk)
  · exact zj_tin 448 X (off := 409) dL_law_39 (by decide) (by decide) (by decide) (by decide) (zLc_9_takeSkat hfl F hD hR (by omega) (by omega) (by omega) h1 h2 kk)
  · exact zj_tin 491 X (off := 452) dL_law_39 (by decide) (by decide) (by decide) (by decide) (zLc_10_putAway hfl F hD hR (by omega) (by omega) (by omega) h1 h2 kk)
  · exact zj_tin 559 X (off := 520) dL_law_39 (by decide) (by decide) (by decide) (by decide) (zLc_11_announce hfl F hD hR (by omega) (by omega) (by omega) h1 h2 kk)
  · exact zj_tin 627 X (off := 588) dL_law_39 (by decide) (by decide) (by decide) (by decide) (zLc_12_contract hfl F hD hR (by omega) (by omega) (by omega) h1 h2 kk)
  · exact zj_tin 640 X (off := 601) dL_law_39 (by decide) (by decide) (by decide) (by decide) (zLc_13_matadors hfl F hD hR (by omega) (by omega) (by omega) h1 h2 kk)
  · exact zj_tin 708 X (off := 669) dL_law_39 (by decide) (by decide) (by decide) (by decide) (zLc_14_playable hfl F hD hR (by omega) (by omega) (by omega) h1 h2 kk)
  · exact zj_tin 751 X (off := 712) dL_law_39 (by decide) (by decide) (by decide) (by decide) (zLc_15_play hfl F hD hR (by omega) (by omega) (by omega) h1 h2 kk)
  · exact zj_tin 807 X (off := 768) dL_law_39 (by decide) (by decide) (by decide) (by decide) (zLc_16_hand hfl F hD hR (by omega) (by omega) (by omega) h1 h2 kk)
  · exact zj_tin 862 X (off := 823) dL_law_39 (by decide) (by decide) (by decide) (by decide) (zLc_17_inTrick hfl F hD hR (by omega) (by omega) (by omega) h1 h2 kk)
  · exact zj_tin 918 X (off := 879) dL_law_39 (by decide) (by decide) (by decide) (by decide) (zLc_18_points hfl F hD hR (by omega) (by omega) (by omega) h1 h2 kk)
  · exact zj_tin 974 X (off := 935) dL_law_39 (by decide) (by decide) (by decide) (by decide) (zLc_19_tricks hfl F hD hR (by omega) (by omega) (by omega) h1 h2 kk)
  · exact zj_tin 1030 X (off := 991) dL_law_39 (by decide) (by decide) (by decide) (by decide) (zLc_20_value hfl F hD hR (by omega) (by omega) (by omega) h1 h2 kk)
  · exact zj_tin 1074 X (off := 1035) dL_law_39 (by decide) (by decide) (by decide) (by decide) (zLc_21_score hfl F hD hR (by omega) (by omega) (by omega) h1 h2 kk)
  · exact zj_tout 1130 X dL_law_39 (by decide) (by decide) (zj_widen _ _ (by omega) (by omega) (kk _ _ hRn))
  · exact zj_tout 1130 X dL_law_39 (by decide) (by decide) (zj_widen _ _ (by omega) (by omega) (kk _ _ hRn))
  · exact zj_tout 1130 X dL_law_39 (by decide) (by decide) (zj_widen _ _ (by omega) (by omega) (kk _ _ hRn))
  · exact zj_tout 1130 X dL_law_39 (by decide) (by decide) (zj_widen _ _ (by omega) (by omega) (kk _ _ hRn))
  · exact zj_tout 1130 X dL_law_39 (by decide) (by decide) (zj_widen _ _ (by omega) (by omega) (kk _ _ hRn))
  · exact zj_tout 1130 X dL_law_39 (by decide) (by decide) (zj_widen _ _ (by omega) (by omega) (kk _ _ hRn))
  · exact zj_tout 1130 X dL_law_39 (by decide) (by decide) (zj_widen _ _ (by omega) (by omega) (kk _ _ hRn))
  · exact zj_tout 1130 X dL_law_39 (by decide) (by decide) (zj_widen _ _ (by omega) (by omega) (kk _ _ hRn))
  · exact zj_tout 1130 X dL_law_39 (by decide) (by decide) (zj_widen _ _ (by omega) (by omega) (kk _ _ hRn))
  · exact zj_tout 1130 X dL_law_39 (by decide) (by decide) (zj_widen _ _ (by omega) (by omega) (kk _ _ hRn))
  · omega
theorem zL_loop {p : Program} {l : Launch} {e : Env} {s : State} {m : MethodId} {below : List Frame} {meth : Method} {c : Code} {D : va_G} {C : ClassId × ClassId} {A : Nat → Prop} {b0 L : Nat} {xs : Nat → Int32} {a b : Nat → Nat} {o : Nat} (hL : L ≤ 1536) (hfl : l.stackTraces = false) (F : zLX p s m c D C A b0 L xs) (hD : ∀ (v : zN) (w : zU × (Nat → Int64)), va_D A (zM C b v ++ zWo C a o w)) (hr : meth.sig.returnType = ret) (hk : meth.locks = false) : ∀ (k j : Nat) (v : zN) (w : zU × (Nat → Int64)) (i : Int32), j + k = 512 → i = nI (3 * j) → zRel j w.1 v → zJ p l e room_1 s m #[Value.ref b0] below meth c (34 + 2 * j) (2297 + 12 * j) (lw_Z below #[Value.ref b0] s) D (zk_Km A s) 8 (zM C b v ++ zWo C a o w) 23 [(0, .ref b0), (1, .ref (a 0)), (2, .ref (b 0)), (3, .ref o), (4, .int i)] [] := by
  intro k
  induction k with
  | zero => exact fun j v w i hj hi hR => zL_step hL hfl F hD hr hk j v w i (by omega) hi hR (fun h => absurd h (by omega))
  | succ k ih => exact fun j v w i hj hi hR => zL_step hL hfl F hD hr hk j v w i (by omega) hi hR (fun h v' w' hR' => zj_widen _ _ (by omega) (by omega) (ih (j + 1) v' w' (i + 3) (by omega) (zLnx hi) hR'))
