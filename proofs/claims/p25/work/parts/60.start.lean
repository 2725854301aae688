/-! from the entry -/
set_option maxHeartbeats 4000000 in
set_option maxRecDepth 100000 in
/-- the law over sixty-one threes, from its entry, with room enough: it ends, and the heap has grown by 207 cells at the least -/
theorem zw_start {p : Program} {e : Env} {s : State} {m : MethodId} {below : List Frame} {meth : Method} {c : Code} (l : Launch) (hflags : l.flags = flags0) {b : Nat} {xs : Nat → Int32} (hxs : ∀ j, j < 61 → xs j = 3) (C0 : lw_At p s m meth c b 61 xs) : W p l e zbig s m #[Value.ref b] below meth c s.heap [] 0 0 (MQ below (fun _ _ _ t => s.heap.size + 207 ≤ t.heap.size) #[Value.ref b] s 25000 150000 (fun _ => True)) (entryFrame m ([Value.ref b] : List Value).toArray 10) := by
  obtain ⟨hx, hb, hr, hml, hown, hts, hX, hbl, hlocks, hgv⟩ := C0
  have hfl : l.stackTraces = false := by unfold Launch.stackTraces; rw [hflags]; decide +kernel
  obtain ⟨D, C, hK⟩ := zst_K hts
  have hA : ∀ q : Nat, s.heap.size ≤ q → (fun q : Nat => s.heap.size ≤ q) q := fun _ h => h
  have hV : zk_V (fun q : Nat => s.heap.size ≤ q) s := zst_V hts (flat_of_before _ hgv) (fun a h => Nat.not_le.mpr h)
  have hbA : ¬ (fun q : Nat => s.heap.size ≤ q) b := Nat.not_le.mpr hbl
  generalize hAe : (fun q : Nat => s.heap.size ≤ q) = A at hA hV hbA
  have X : zX p m c code 10 s #[Value.ref b] RL D C A (zk_Km A s) := ⟨⟨hx, hb, hml, hown, fun w hw => hts w (List.mem_filter.mp hw).1⟩, hK, hV, fun H locs h => h⟩
  have Xn : zX p m c code 10 s #[Value.ref b] RL D C A (zk_Kn A s 0) := ⟨⟨hx, hb, hml, hown, fun w hw => hts w (List.mem_filter.mp hw).1⟩, hK, hV, fun H locs h => h.1⟩
  refine zk_into (ws := []) (D := D) (K := zk_Km A s) (As := [.ref b]) (nL := 10) (Nat.le_of_ble_eq_true rfl) (fun k q h => by cases h) va_S.rf ?_
  have hD : va_D A ([] : va_W) := ⟨(fun i j p q hi => by cases hi), (fun k q hk => by cases hk)⟩
  show zJ p l e zbig s m #[Value.ref b] below meth c 0 0 (MQ below (fun _ _ _ t => s.heap.size + 207 ≤ t.heap.size) #[Value.ref b] s 25000 150000 (fun _ => True)) D (zk_Km A s) 10 [] 0 [(0, .ref b)] []
  refine zj_new_mill 3 X hD hA (by decide) (by decide) dL_law_0 rfl (fun h1 hD => ?_)
  refine zj_dup 4 X dL_law_3 rfl rfl ?_
  refine zc_k 7 (wr := []) (wc := [(h1, .inr (2, [.null, .null, .null, .null, .null, .int 0, .int 0, .int 0, .int 0, .int 0, .int 0, .int 0, .int 0, .int 0, .int 0, .long 0]))]) (zr_K (rest := [.ref h1]) X (zc_X4_init (l := l) (D := D) (C := C) (b := h1)) (zG_t 15 (by decide +kernel) rfl) rfl (zG_t 16 (by decide +kernel) rfl) ⟨zG_t 1 (by decide +kernel) rfl, zG_t 17 (by decide +kernel) rfl, by decide +kernel, by decide +kernel, by decide +kernel⟩ (zcR_k rfl (by decide) (by decide)) (zD_r (w1 := []) hD) hA (Nat.le_of_ble_eq_true rfl) dL_law_4) hD hA rfl (fun z hz hD6 => ?_)
  obtain ⟨a, u⟩ := z
  obtain ⟨ha, hu1⟩ := hz
  dsimp only at ha hu1
  subst ha
  refine zj_ws (ws1 := zS C a u) rfl ?_
  have hD1 : va_D A (zS C a u) := hD6
  clear hD6 hD
  refine zj_astore_n 8 X (lv1 := [(0, .ref b), (1, .ref (a 0))]) [1, 0] dL_law_7 (by decide) rfl rfl ?_
  refine zj_new_mill 11 X hD1 hA (by decide) (by decide) dL_law_8 rfl (fun h2 hD => ?_)
  refine zj_dup 12 X dL_law_11 rfl rfl ?_
  refine zc_k 15 (wr := zS C a u) (wc := [(h2, .inr (2, [.null, .null, .null, .null, .null, .int 0, .int 0, .int 0, .int 0, .int 0, .int 0, .int 0, .int 0, .int 0, .int 0, .long 0]))]) (zr_K (rest := [.ref h2]) X (zc_X4_init (l := l) (D := D) (C := C) (b := h2)) (zG_t 15 (by decide +kernel) rfl) rfl (zG_t 16 (by decide +kernel) rfl) ⟨zG_t 1 (by decide +kernel) rfl, zG_t 17 (by decide +kernel) rfl, by decide +kernel, by decide +kernel, by decide +kernel⟩ (zcR_k rfl (by decide) (by decide)) (zD_r (w1 := zS C a u) hD) hA (Nat.le_of_ble_eq_true rfl) dL_law_12) hD hA rfl (fun z hz hD6 => ?_)
  obtain ⟨b2, u2⟩ := z
  obtain ⟨ha, hu2⟩ := hz
  dsimp only at ha hu2
  subst ha
  have hD2 : va_D A (zS C a u ++ zS C b2 u2) := hD6
  clear hD6 hD
  refine zj_astore_n 16 X (lv1 := [(0, .ref b), (1, .ref (a 0)), (2, .ref (b2 0))]) [1, 2, 0] dL_law_15 (by decide) rfl rfl ?_
  refine zj_iconst 17 X (v := 0) dL_law_16 (by decide) rfl ?_
  refine zj_istore_n 18 X (lv1 := [(0, .ref b), (1, .ref (a 0)), (2, .ref (b2 0)), (3, .int 0)]) [1, 2, 3, 0] dL_law_17 (by decide) rfl rfl ?_
  refine zj_widen 14 136 (by decide) (by decide) ?_
  have h1 : zU1 u := by rw [hu1]; exact zU1_start
  have e2 : u2 = u := by rw [hu1, hu2]
  subst e2
  have F := zL_loop (e := e) (below := below) (meth := meth) hfl h1 Xn hX hbl hbA hA hxs hD2 (show meth.sig.returnType = some .boolean from hr) hlocks 150 0 rfl
  exact fun H locs ls hP hK hl => F H locs ls hP ⟨hK, hK.1⟩ hl
