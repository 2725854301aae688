/-! the entry of the law -/
theorem zDmw {A : Nat → Prop} {C : ClassId × ClassId} {a b : Nat → Nat} {o : Nat} {v0 : zN} {w0 : zU × (Nat → Int64)} (h : va_D A (zM C b v0 ++ zWo C a o w0)) (v : zN) (w : zU × (Nat → Int64)) : va_D A (zM C b v ++ zWo C a o w) := by
  have key : ∀ (k : Nat) (q : Nat × va_E), (zM C b v ++ zWo C a o w)[k]? = some q → ∃ e, (zM C b v0 ++ zWo C a o w0)[k]? = some (q.1, e) := by
    intro k q hk
    rcases k with _ | _ | _ | _ | _ | _ | _ | _ | _ | _ | _ | _ | _ | _ | _ | _ | k
    all_goals first | (cases hk; exact ⟨_, rfl⟩) | (cases hk)
  refine ⟨fun i j p q hi hj e => ?_, fun k q hk => ?_⟩
  · obtain ⟨x, hx⟩ := key i p hi
    obtain ⟨y, hy⟩ := key j q hj
    exact h.1 i j _ _ hx hy e
  · obtain ⟨x, hx⟩ := key k q hk
    exact h.2 k (q.1, x) hx
theorem zstr {args : Array Value} {s : State} {k : Nat} {tx : String} (h1 : (Cond.stringRef "SkatMill" k tx).before args s = true) (h2 : (Cond.exactly (.string "SkatMill" k) "java/lang/String").before args s = true) : ∃ a : Nat, vk_R "SkatMill" k tx a s := by
  obtain ⟨a, c, cA, kA, q1, -⟩ := Cond.exactly_spec (args := args) (first := s) (o := none) (s := s) (idx := []) h2
  exact ⟨a, vk_R.of h1 q1⟩
theorem zN_tbl : ∀ w ∈ zk_N, w ∈ tables_1 := by decide +kernel
theorem zst_NC {s : State} {args : Array Value} (hts : ∀ w ∈ lw_tbl, w.before args s = true) (hq : ∀ w ∈ flatC (Jvm.Cond.and given_1 narrow_1), w.before args s = true) : ∀ q ∈ zk_NC, va_Nc q.1 q.2 s := List.forall_mem_cons.mpr ⟨va_Nc.of (hq _ (List.mem_of_getElem? (i := 38) (by decide +kernel))), List.forall_mem_cons.mpr ⟨va_Nc.of (hq _ (List.mem_of_getElem? (i := 44) (by decide +kernel))), List.forall_mem_cons.mpr ⟨va_Nc.of (hq _ (List.mem_of_getElem? (i := 32) (by decide +kernel))), List.forall_mem_cons.mpr ⟨va_Nc.of (hq _ (List.mem_of_getElem? (i := 45) (by decide +kernel))), List.forall_mem_cons.mpr ⟨va_Nc.of (hq _ (List.mem_of_getElem? (i := 33) (by decide +kernel))), List.forall_mem_cons.mpr ⟨va_Nc.of (hq _ (List.mem_of_getElem? (i := 39) (by decide +kernel))), fun _ h => by cases h⟩⟩⟩⟩⟩⟩
theorem zst_S {s : State} {args : Array Value} (hts : ∀ w ∈ lw_tbl, w.before args s = true) (hq : ∀ w ∈ flatC (Jvm.Cond.and given_1 narrow_1), w.before args s = true) : ∀ q ∈ zk_str, ∃ a : Nat, vk_R "SkatMill" q.1 q.2 a s := List.forall_mem_cons.mpr ⟨zstr (hts _ (List.mem_append_right _ (List.mem_of_getElem? (i := 223) (by decide +kernel)))) (hq _ (List.mem_of_getElem? (i := 46) (by decide +kernel))), List.forall_mem_cons.mpr ⟨zstr (hts _ (List.mem_append_right _ (List.mem_of_getElem? (i := 267) (by decide +kernel)))) (hq _ (List.mem_of_getElem? (i := 78) (by decide +kernel))), List.forall_mem_cons.mpr ⟨zstr (hts _ (List.mem_append_right _ (List.mem_of_getElem? (i := 277) (by decide +kernel)))) (hq _ (List.mem_of_getElem? (i := 107) (by decide +kernel))), List.forall_mem_cons.mpr ⟨zstr (hts _ (List.mem_append_right _ (List.mem_of_getElem? (i := 295) (by decide +kernel)))) (hq _ (List.mem_of_getElem? (i := 141) (by decide +kernel))), List.forall_mem_cons.mpr ⟨zstr (hts _ (List.mem_append_right _ (List.mem_of_getElem? (i := 303) (by decide +kernel)))) (hq _ (List.mem_of_getElem? (i := 174) (by decide +kernel))), List.forall_mem_cons.mpr ⟨zstr (hts _ (List.mem_append_right _ (List.mem_of_getElem? (i := 319) (by decide +kernel)))) (hq _ (List.mem_of_getElem? (i := 218) (by decide +kernel))), List.forall_mem_cons.mpr ⟨zstr (hts _ (List.mem_append_right _ (List.mem_of_getElem? (i := 331) (by decide +kernel)))) (hq _ (List.mem_of_getElem? (i := 266) (by decide +kernel))), List.forall_mem_cons.mpr ⟨zstr (hts _ (List.mem_append_right _ (List.mem_of_getElem? (i := 352) (by decide +kernel)))) (hq _ (List.mem_of_getElem? (i := 311) (by decide +kernel))), List.forall_mem_cons.mpr ⟨zstr (hts _ (List.mem_append_right _ (List.mem_of_getElem? (i := 359) (by decide +kernel)))) (hq _ (List.mem_of_getElem? (i := 343) (by decide +kernel))), List.forall_mem_cons.mpr ⟨zstr (hts _ (List.mem_append_right _ (List.mem_of_getElem? (i := 360) (by decide +kernel)))) (hq _ (List.mem_of_getElem? (i := 387) (by decide +kernel))), List.forall_mem_cons.mpr ⟨zstr (hts _ (List.mem_append_right _ (List.mem_of_getElem? (i := 384) (by decide +kernel)))) (hq _ (List.mem_of_getElem? (i := 433) (by decide +kernel))), List.forall_mem_cons.mpr ⟨zstr (hts _ (List.mem_append_right _ (List.mem_of_getElem? (i := 385) (by decide +kernel)))) (hq _ (List.mem_of_getElem? (i := 481) (by decide +kernel))), List.forall_mem_cons.mpr ⟨zstr (hts _ (List.mem_append_right _ (List.mem_of_getElem? (i := 389) (by decide +kernel)))) (hq _ (List.mem_of_getElem? (i := 526) (by decide +kernel))), List.forall_mem_cons.mpr ⟨zstr (hts _ (List.mem_append_right _ (List.mem_of_getElem? (i := 400) (by decide +kernel)))) (hq _ (List.mem_of_getElem? (i := 568) (by decide +kernel))), List.forall_mem_cons.mpr ⟨zstr (hts _ (List.mem_append_right _ (List.mem_of_getElem? (i := 401) (by decide +kernel)))) (hq _ (List.mem_of_getElem? (i := 608) (by decide +kernel))), List.forall_mem_cons.mpr ⟨zstr (hts _ (List.mem_append_right _ (List.mem_of_getElem? (i := 419) (by decide +kernel)))) (hq _ (List.mem_of_getElem? (i := 672) (by decide +kernel))), List.forall_mem_cons.mpr ⟨zstr (hts _ (List.mem_append_right _ (List.mem_of_getElem? (i := 451) (by decide +kernel)))) (hq _ (List.mem_of_getElem? (i := 714) (by decide +kernel))), List.forall_mem_cons.mpr ⟨zstr (hts _ (List.mem_append_right _ (List.mem_of_getElem? (i := 570) (by decide +kernel)))) (hq _ (List.mem_of_getElem? (i := 763) (by decide +kernel))), List.forall_mem_cons.mpr ⟨zstr (hts _ (List.mem_append_right _ (List.mem_of_getElem? (i := 592) (by decide +kernel)))) (hq _ (List.mem_of_getElem? (i := 813) (by decide +kernel))), fun _ h => by cases h⟩⟩⟩⟩⟩⟩⟩⟩⟩⟩⟩⟩⟩⟩⟩⟩⟩⟩⟩
theorem zst_zk_pts {s : State} {args : Array Value} (hts : ∀ w ∈ lw_tbl, w.before args s = true) (hq : ∀ w ∈ flatC (Jvm.Cond.and given_1 narrow_1), w.before args s = true) {A : Nat → Prop} (hA : ∀ a : Nat, a < s.heap.size → ¬ A a) : ∃ t : Nat, va_Z RX1 "POINTS" "[I" (.ref t) A s s.heap ∧ va_T .int t 8 (fun j => .int (zk_pts j)) A s s.heap := by
  obtain ⟨t, h1, h2⟩ := va_Tof (tm := .static RX1 "POINTS" "[I") (ty := .int) (N := 8) (f := fun j => .int (zk_pts j)) (A := A) (by decide) (hq _ (List.mem_of_getElem? (i := 7) (by decide +kernel))) (va_eqt (hq _ (List.mem_of_getElem? (i := 8) (by decide +kernel)))) (fun j hj => by
    rcases j with _ | _ | _ | _ | _ | _ | _ | _ | j
    · exact va_eqt (hq _ (List.mem_of_getElem? (i := 9) (by decide +kernel)))
    · exact va_eqt (hq _ (List.mem_of_getElem? (i := 10) (by decide +kernel)))
    · exact va_eqt (hq _ (List.mem_of_getElem? (i := 11) (by decide +kernel)))
    · exact va_eqt (hq _ (List.mem_of_getElem? (i := 12) (by decide +kernel)))
    · exact va_eqt (hq _ (List.mem_of_getElem? (i := 13) (by decide +kernel)))
    · exact va_eqt (hq _ (List.mem_of_getElem? (i := 14) (by decide +kernel)))
    · exact va_eqt (hq _ (List.mem_of_getElem? (i := 15) (by decide +kernel)))
    · exact va_eqt (hq _ (List.mem_of_getElem? (i := 16) (by decide +kernel)))
    · exact absurd hj (by omega)) hA
  exact ⟨t, va_Zof (hts _ (List.mem_append_right _ (List.mem_of_getElem? (i := 370) (by decide +kernel)))) (hts _ (List.mem_append_right _ (List.mem_of_getElem? (i := 4) (by decide +kernel)))) h1 hA, h2⟩
theorem zst_zk_ord {s : State} {args : Array Value} (hts : ∀ w ∈ lw_tbl, w.before args s = true) (hq : ∀ w ∈ flatC (Jvm.Cond.and given_1 narrow_1), w.before args s = true) {A : Nat → Prop} (hA : ∀ a : Nat, a < s.heap.size → ¬ A a) : ∃ t : Nat, va_Z RX1 "ORDER_IN_NULL" "[I" (.ref t) A s s.heap ∧ va_T .int t 8 (fun j => .int (zk_ord j)) A s s.heap := by
  obtain ⟨t, h1, h2⟩ := va_Tof (tm := .static RX1 "ORDER_IN_NULL" "[I") (ty := .int) (N := 8) (f := fun j => .int (zk_ord j)) (A := A) (by decide) (hq _ (List.mem_of_getElem? (i := 18) (by decide +kernel))) (va_eqt (hq _ (List.mem_of_getElem? (i := 19) (by decide +kernel)))) (fun j hj => by
    rcases j with _ | _ | _ | _ | _ | _ | _ | _ | j
    · exact va_eqt (hq _ (List.mem_of_getElem? (i := 20) (by decide +kernel)))
    · exact va_eqt (hq _ (List.mem_of_getElem? (i := 21) (by decide +kernel)))
    · exact va_eqt (hq _ (List.mem_of_getElem? (i := 22) (by decide +kernel)))
    · exact va_eqt (hq _ (List.mem_of_getElem? (i := 23) (by decide +kernel)))
    · exact va_eqt (hq _ (List.mem_of_getElem? (i := 24) (by decide +kernel)))
    · exact va_eqt (hq _ (List.mem_of_getElem? (i := 25) (by decide +kernel)))
    · exact va_eqt (hq _ (List.mem_of_getElem? (i := 26) (by decide +kernel)))
    · exact va_eqt (hq _ (List.mem_of_getElem? (i := 27) (by decide +kernel)))
    · exact absurd hj (by omega)) hA
  exact ⟨t, va_Zof (hts _ (List.mem_append_right _ (List.mem_of_getElem? (i := 480) (by decide +kernel)))) (hts _ (List.mem_append_right _ (List.mem_of_getElem? (i := 4) (by decide +kernel)))) h1 hA, h2⟩
theorem zst_V {s : State} {args : Array Value} (hts : ∀ w ∈ lw_tbl, w.before args s = true) (hq : ∀ w ∈ flatC (Jvm.Cond.and given_1 narrow_1), w.before args s = true) {A : Nat → Prop} (hA : ∀ a : Nat, a < s.heap.size → ¬ A a) : zk_V A s :=
  ⟨⟨fun w hw => va_Nw.of (zk_N_tab w hw) (hts w (List.mem_append_right _ (zN_tbl w hw))), zst_NC hts hq, zst_S hts hq⟩, zst_zk_pts hts hq hA, zst_zk_ord hts hq hA,
    vx_Zqof (hts _ (List.mem_append_right _ (List.mem_of_getElem? (i := 209) (by decide +kernel)))) (hts _ (List.mem_append_right _ (List.mem_of_getElem? (i := 6) (by decide +kernel)))) (hq _ (List.mem_of_getElem? (i := 4) (by decide +kernel))) hA, vx_Zqof (hts _ (List.mem_append_right _ (List.mem_of_getElem? (i := 211) (by decide +kernel)))) (hts _ (List.mem_append_right _ (List.mem_of_getElem? (i := 6) (by decide +kernel)))) (hq _ (List.mem_of_getElem? (i := 5) (by decide +kernel))) hA⟩
theorem zst_A {s : State} {args : Array Value} {ty : FieldType} (hty : ty = .int ∨ ty = .long) (h : (Cond.arrayClass ty).before args s = true) : ∃ cA : ClassId, ArrOfT s cA ty ∧ va_RA s cA ty := by
  obtain ⟨cA, kA, comp, hfind, hk, hkind⟩ := Cond.arrayClass_spec h
  refine ⟨cA, fun n z => ⟨fun k h9 => ?_, kA, hk, comp, hkind⟩, ?_⟩
  · rcases hty with rfl | rfl <;> cases h9
  · rcases hty with rfl | rfl <;> exact hfind
theorem zst_K {s : State} {args : Array Value} (hts : ∀ w ∈ lw_tbl, w.before args s = true) : ∃ (D : va_G) (C : ClassId × ClassId), va_K D vwCl (zk_y C) s := by
  have hz : ∀ w ∈ zG, w.before args s = true := fun w hw => hts w (List.mem_filter.mp hw).1
  obtain ⟨c0, i0, h0⟩ := u_known (C := RX2) (T := TX2) (N := 5) (n := 5) hz zi_RX2 (hts _ (List.mem_append_right _ (List.mem_of_getElem? (i := 23) (by decide +kernel))))
  obtain ⟨c1, i1, h1⟩ := u_known (C := RX3) (T := TX3) (N := 2) (n := 2) hz zi_RX3 (hts _ (List.mem_append_right _ (List.mem_of_getElem? (i := 50) (by decide +kernel))))
  obtain ⟨c2, i2, h2⟩ := u_known (C := RX4) (T := TX4) (N := 16) (n := 16) hz zi_RX4 (hts _ (List.mem_append_right _ (List.mem_of_getElem? (i := 15) (by decide +kernel))))
  obtain ⟨c3, i3, h3⟩ := u_known (C := RX5) (T := TX5) (N := 22) (n := 22) hz zi_RX5 (hts _ (List.mem_append_right _ (List.mem_of_getElem? (i := 601) (by decide +kernel))))
  obtain ⟨cI, gI, rI⟩ := zst_A (ty := .int) (Or.inl rfl) (hts _ (List.mem_append_right _ (List.mem_of_getElem? (i := 62) (by decide +kernel))))
  obtain ⟨cL, gL, rL⟩ := zst_A (ty := .long) (Or.inr rfl) (hts _ (List.mem_append_right _ (List.mem_of_getElem? (i := 693) (by decide +kernel))))
  refine ⟨(fun k => [c0, c1, c2, c3].getD k c0, fun k => [i0, i1, i2, i3].getD k i0), (cI, cL), fun k q hq => ?_, fun k q hq => ?_⟩
  · rcases k with _ | _ | _ | _ | k
    · cases hq; exact h0
    · cases hq; exact h1
    · cases hq; exact h2
    · cases hq; exact h3
    · cases hq
  · rcases k with _ | _ | k
    · cases hq; exact ⟨gI, rI⟩
    · cases hq; exact ⟨gL, rL⟩
    · cases hq
set_option maxHeartbeats 4000000 in
set_option maxRecDepth 100000 in
theorem whole_start {p : Program} {e : Env} {s : State} {m : MethodId} {below : List Frame} {meth : Method} {c : Code} (l : Launch) (hflags : l.flags = flags0) {b L : Nat} {xs : Nat → Int32} (hL : L ≤ 1536) (C0 : lw_At p s m meth c b L xs) : W p l e room_1 s m #[Value.ref b] below meth c s.heap [] 0 0 (lw_Z below #[Value.ref b] s) (entryFrame m ([Value.ref b] : List Value).toArray 8) := by
  obtain ⟨hx, hb, hr, hml, hown, hts, hX, hbl, hlocks, hgv⟩ := C0
  have hfl : l.stackTraces = false := by unfold Launch.stackTraces; rw [hflags]; decide +kernel
  obtain ⟨D, C, hK⟩ := zst_K hts
  have hA : ∀ q : Nat, s.heap.size ≤ q → (fun q : Nat => s.heap.size ≤ q) q := fun _ h => h
  have hV : zk_V (fun q : Nat => s.heap.size ≤ q) s := zst_V hts (flat_of_before _ hgv) (fun a h => Nat.not_le.mpr h)
  generalize hAe : (fun q : Nat => s.heap.size ≤ q) = A at hA hV
  have hA2 : ∀ q : Nat, A q → s.heap.size ≤ q := fun q h => by rw [← hAe] at h; exact h
  have X : zX p m c code 8 s #[Value.ref b] RL D C A (zk_Km A s) := ⟨⟨hx, hb, hml, hown, fun w hw => hts w (List.mem_filter.mp hw).1⟩, hK, hV, fun H locs h => h⟩
  have F : zLX p s m c D C A b L xs := ⟨X, hX, hbl, fun h => absurd hbl (Nat.not_lt.mpr (hA2 _ h)), hA, hA2⟩
  refine zk_into (ws := []) (D := D) (K := zk_Km A s) (As := [.ref b]) (nL := 8) (Nat.le_of_ble_eq_true rfl) (fun k q h => by cases h) va_S.rf ?_
  have hD : va_D A ([] : va_W) := ⟨(fun i j p q hi => by cases hi), (fun k q hk => by cases hk)⟩
  show zJ p l e room_1 s m #[Value.ref b] below meth c 0 0 (lw_Z below #[Value.ref b] s) D (zk_Km A s) 8 [] 0 [(0, .ref b)] []
  refine zj_new_mill 3 X hD hA (by decide) (by decide) dL_law_0 rfl (fun h hD => ?_)
  refine zj_dup 4 X dL_law_3 rfl rfl ?_
  refine zc_k 7 (wr := []) (wc := [(h, .inr (2, [.null, .null, .null, .null, .null, .int 0, .int 0, .int 0, .int 0, .int 0, .int 0, .int 0, .int 0, .int 0, .int 0, .long 0]))]) (zr_K (rest := [.ref h]) X (zc_X4_init (l := l) (D := D) (C := C) (b := h)) (zG_t 16 (by decide +kernel) rfl) rfl (zG_t 17 (by decide +kernel) rfl) ⟨zG_t 1 (by decide +kernel) rfl, zG_t 18 (by decide +kernel) rfl, by decide +kernel, by decide +kernel, by decide +kernel⟩ (zcR_k rfl (by decide) (by decide)) (zD_r (w1 := []) hD) hA (Nat.le_of_ble_eq_true rfl) dL_law_4) hD hA rfl (fun z hz hD6 => ?_)
  obtain ⟨a, u⟩ := z
  obtain ⟨ha, hu⟩ := hz
  dsimp only at ha hu
  subst ha
  refine zj_ws (ws1 := zS C a u) rfl ?_
  have hD1 : va_D A (zS C a u) := hD6
  refine zj_astore_n 8 X (lv1 := [(0, .ref b), (1, .ref (a 0))]) [1, 0] dL_law_7 (by decide) rfl rfl ?_
  refine zj_new_model 11 X hD1 hA (by decide) (by decide) dL_law_8 rfl (fun h2 hD2 => ?_)
  refine zj_dup 12 X dL_law_11 rfl rfl ?_
  refine zc_k 15 (wr := zS C a u) (wc := [(h2, .inr (3, [.int 0, .int 0, .int 0, .int 0, .null, .null, .null, .long 0, .int 0, .int 0, .int 0, .int 0, .int 0, .int 0, .int 0, .int 0, .null, .int 0, .int 0, .null, .null, .null]))]) (zr_K (rest := [.ref h2]) X (zc_X5_init (l := l) (D := D) (C := C) (b := h2)) (zG_t 602 (by decide +kernel) rfl) rfl (zG_t 603 (by decide +kernel) rfl) ⟨zG_t 5 (by decide +kernel) rfl, zG_t 604 (by decide +kernel) rfl, by decide +kernel, by decide +kernel, by decide +kernel⟩ (zcR_k rfl (by decide) (by decide)) (zD_r (w1 := zS C a u) hD2) hA (Nat.le_of_ble_eq_true rfl) dL_law_12) hD2 hA rfl (fun z hz hD3 => ?_)
  obtain ⟨b2, v⟩ := z
  obtain ⟨hb2, hv⟩ := hz
  dsimp only at hb2 hv
  subst hb2
  refine zj_astore_n 16 X (lv1 := [(0, .ref b), (1, .ref (a 0)), (2, .ref (b2 0))]) [1, 2, 0] dL_law_15 (by decide) rfl rfl ?_
  refine zj_iconst 17 X (v := 1) dL_law_16 (by decide) rfl ?_
  refine zj_newal 19 1 X hD3 hA rfl (by decide) (by decide) (by decide) dL_law_17 rfl (fun o hD4 => ?_)
  refine zj_astore_n 20 X (lv1 := [(0, .ref b), (1, .ref (a 0)), (2, .ref (b2 0)), (3, .ref o)]) [1, 2, 3, 0] dL_law_19 (by decide) rfl rfl ?_
  refine zj_perm (ws1 := zM C b2 v ++ zWo C a o (u, fun _ => 0)) [7, 8, 9, 10, 11, 12, 13, 14, 0, 1, 2, 3, 4, 5, 6, 15] (by decide) rfl rfl hD4 (fun hD5 => ?_)
  refine zj_iconst 21 X (v := 0) dL_law_20 (by decide) rfl ?_
  refine zj_istore 23 X (lv1 := [(0, .ref b), (1, .ref (a 0)), (2, .ref (b2 0)), (3, .ref o), (4, .int 0)]) [1, 2, 3, 4, 0] dL_law_21 (by decide) rfl rfl ?_
  refine zj_widen 34 2297 (by decide) (by decide) ?_
  exact zL_loop hL hfl F (fun v w => zDmw hD5 v w) hr hlocks 512 0 v (u, fun _ => 0) 0 rfl rfl (by rw [hu, hv]; exact zRel_init)

set_option maxHeartbeats 4000000 in
theorem lw_walk (l : Launch) (hflags : l.flags = flags0) (b : Addr) (xs : List Int32) : MetFree l x (headSpec (Jvm.Cond.code x code maxLocals ret :: tables_1) room_1) (lw_P b xs) (fun _ _ _ _ _ => True) lw_Q := by
  refine MetFree.of_bodyS (code := code) (maxLocals := maxLocals) (ret := ret) (by decide) ?_ ?_
  · intro args s m h hn
    obtain ⟨meth, c, h1, h2, h3, h4, h5, h6, -, -⟩ := Cond.code_spec hn (atoms_spec (ws := Jvm.Cond.code x code maxLocals ret :: tables_1) h _ List.mem_cons_self)
    exact ⟨meth, c, h1, h2, h3, h4, h5, h6⟩
  · intro p e s m args below meth c s₁ B hml0 hP _
    obtain ⟨rfl, hx, hbd, hgv⟩ := hP
    obtain ⟨scr, harrAt, hlist, hof, hsmall⟩ := hx
    obtain ⟨hcb, hkn, -, -⟩ := State.arrayAt?_spec harrAt
    have hown : s.vm.findClass R_law = some m.cls := findClass_of_methodNamed B.named
    have hts0 : ∀ c ∈ (Jvm.Cond.code x code maxLocals ret :: tables_1), c.before #[Value.ref b] s = true := atoms_spec (ws := Jvm.Cond.code x code maxLocals ret :: tables_1) B.pre
    have hts : ∀ w ∈ lw_tbl, w.before #[Value.ref b] s = true := k2_hts_sels lw_privs (fun w hw => hts0 w (List.mem_cons_of_mem _ hw)) lw_privs_ok
    have hml : c.maxLocals = 8 := B.maxLocals_eq (hts0 _ List.mem_cons_self)
    have X₀ : Stand p l e room_1 s m #[Value.ref b] below meth c s₁ [] 0 0 := Stand.of_body B
    have hh0 : s₁.heap = s.heap := by rw [B.state]; rfl
    have hsz : scr.slots.size = xs.length := by rw [← Array.length_toList, hlist, List.length_map]
    have hval : ∀ j : Nat, j < xs.length → scr.slots[j]? = some (.int (xs.getD j 0)) := fun j hj => by
      rw [← Array.getElem?_toList, hlist]
      simp [hj]
    have hbl : b < s.heap.size := (Array.getElem?_eq_some_iff.mp hcb).1
    have hX : va_X b xs.length (fun j => xs.getD j 0) s s.heap := ⟨scr, hcb, hof, hkn, hsz, hval⟩
    have K : W p l e room_1 s m #[Value.ref b] below meth c s₁.heap [] 0 0 (lw_Z below #[Value.ref b] s) (entryFrame m ([Value.ref b] : List Value).toArray 8) := by
      rw [hh0]
      exact whole_start l hflags hbd ⟨B.exec, B.bytes, B.returns, hml, hown, hts, hX, hbl, B.notSynchronized, hgv⟩
    obtain ⟨t, a1, o, b1, b2, b3⟩ := K s₁ rfl X₀
    exact ⟨t, o, a1, b1, b2, b3⟩
theorem lw_pre_spec {args : Array Value} {s : State} (h : (Jvm.Cond.and given_1 narrow_1).before args s = true) (hr : rest_1_c.before args s = true) : ∃ (b : Addr) (xs : List Int32), lw_P b xs args s := by
  have hs := flat_of_before _ h
  have hq := flat_of_before _ hr
  have hc : (Cond.count 1).before args s = true := hs _ (by decide +kernel)
  have harr : (Cond.arrayOf (.arg 0) .int).before args s = true := hs _ (by decide +kernel)
  have hle : (Cond.le (.length (.arg 0)) (.int 1536)).before args s = true := hs _ (by decide +kernel)
  have hlen : (Cond.isInt (.length (.arg 0))).before args s = true := hq _ (by decide +kernel)
  have hall : (Cond.all (.arg 0) (.isInt (.elem (.arg 0) (.index 0)))).before args s = true := hq _ (by decide +kernel)
  obtain ⟨b, xs, hb, hx⟩ := State.ints_of_pre rfl harr hlen hall
  have hsm : xs.length < 2 ^ 31 := hx.choose_spec.2.2.2
  have hev : (Term.length (.arg 0)).eval args s none [] s = some (.int xs.length.toInt32) := hx.length_eval hb
  have hv := Cond.le_ints hev (show (Term.int 1536).eval args s none [] s = some (.int 1536) from rfl)
  have hd : xs.length.toInt32 ≤ 1536 := by
    simpa [Cond.before, Cond.holds, hv] using hle
  have hN : xs.length ≤ 1536 := (Int32.ofNat_le_ofNat hsm (by decide)).mp (show Int32.ofNat xs.length ≤ Int32.ofNat 1536 from hd)
  exact ⟨b, xs, Cond.one_arg hc (show args[0]? = some (.ref b) from hb), hx, hN, h⟩
theorem lw_comes (l : Launch) (hflags : l.flags = flags0) : Comes l x (Jvm.Cond.code x code maxLocals ret :: tables_1) room_1 (fun tb e args s => Calls_1 tb e args s ∧ rest_1 tb e args s ∧ Pre_1 tb e args s)
    (fun _ _ args s o t => lw_Q args s o t) := by
  intro p e ha hc hk s m args below hf hfit hheap happ hpre
  obtain ⟨b, xs, hP⟩ := lw_pre_spec hpre.2.2 hpre.2.1
  obtain ⟨k, o, h1, h2, h3, hQ⟩ := lw_walk l hflags b xs p e ha hc hk s m args below hf ((Spec.applies_iff_loose hf).mp happ).1 hP trivial
  exact ⟨k, o, h1, h2, h3, hQ⟩
theorem lw_frame {s t : State} {o : Outcome} {args : Array Value} (h : Framed s o t [] 1060 8453) :
    Framed s o t (fieldLocs frame_1_writes args s ++ arrayLocs frame_1_arrays args s ++ staticLocs frame_1_statics s) 1060 8453 := h
theorem lw_limb (L : Cond) (hL : ∀ (args : Array Value) (s t : State), L.after args s (.returned (some (.int 1))) t = true) :
    ArmFor flags0 classFile x code maxLocals ret World_1 tables_1 room_1 Calls_1 rest_1 Pre_1
      (fun tb e a s o t => postC L tb e a s o t ∧ Framed s o t (fieldLocs frame_1_writes a s ++ arrayLocs frame_1_arrays a s ++ staticLocs frame_1_statics s) 1060 8453) := by
  intro l hflags _ _ p e ha hc hk s m args below hf hfit hheap happ hpre
  obtain ⟨k, o, h1, h2, h3, rfl, hF⟩ := lw_comes l hflags p e ha hc hk s m args below hf hfit hheap happ hpre
  exact ⟨k, _, h1, h2, h3, hL args s _, lw_frame hF⟩
theorem i_vc : Claimed_1_1 ∧ Claimed_1_2 := ⟨lw_limb limb_1_1 (fun args s t => by simp [limb_1_1, Cond.after, Cond.holds, Cond.value]), lw_limb limb_1_2 (fun args s t => Cond.after_iff.mpr (by
  first | (rw [show limb_1_2 = Cond.eq .result (.int 1) from rfl, Cond.eq_ints (x := 1) (y := 1) rfl rfl]; simp; done) | (simp [limb_1_2, Cond.value, Term.eval]; done)))⟩
