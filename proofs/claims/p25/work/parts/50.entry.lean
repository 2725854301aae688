/-! THE CLAIM OUT OF ONE WALK OF THE LAW'S BODY. Your part is whole_start (and what it stands on); all else here is the same for every law, but numbers. -/
def R_law : String := "SkatMillLaw"
def lw_P (b : Addr) (xs : List Int32) (args : Array Value) (s : State) : Prop := args = #[.ref b] ∧ s.IntsAt b xs ∧ xs.length ≤ 260 ∧ (Jvm.Cond.and given_1 narrow_1).before args s = true
def lw_Q (_ : Array Value) (s : State) (o : Outcome) (t : State) : Prop := o = .returned (some (.int 1)) ∧ Framed s o t [] 206 1632
def lw_Z (below : List Frame) (a : Array Value) (s : State) : State → Prop := fun t => ∃ o, t.status = .running ∧ Ended t below o ∧ lw_Q a s o t
/-- the law's own end, with 1 on the stack, nothing written that was there before, its room as the claim has it -/
theorem lw_ret {p : Program} {l : Launch} {e : Env} {s : State} {m : MethodId} {below : List Frame} {meth : Method} {c : Code} {b : Nat} (hx : p.tables.exec = Jvm.exec) (hb : c.code = code) (hr : meth.sig.returnType = ret) (hlocks : meth.locks = false) {pc : Nat} {H : Heap} {ls : Array Slot} (hdg : decode code pc = .ok (.ireturn, 1)) : W p l e room_1 s m #[Value.ref b] below meth c H [] 206 1632 (lw_Z below #[Value.ref b] s) (F0 m pc ls [.int 1]) := by
  intro T hT X
  obtain ⟨fs, hret, hrun, hended, hW, hframe⟩ := X.leave (v := some (.int 1)) (hlocks := hlocks) (fun h => by rw [hr] at h; cases h)
  have hmeth' : T.vm.method? m = some meth := X.method'
  refine ⟨T.setFrames fs, ?_, .returned (some (.int 1)), hrun, hended, rfl, ⟨_, rfl⟩, hW, hframe⟩
  jvm_step X.here [X.here.top, hx, hb, hdg, hmeth', hr, ret, narrow_b1]
  (try refine ⟨rfl, ?_⟩); (try refine ⟨rfl, ?_⟩)
  first | (intro acts; rw [hret _ acts rfl rfl rfl]) | rw [hret _ _ rfl rfl rfl]
  exact Steps.refl _
/-- what holds at the law's entry: the machine, the code, the tables' words (any of lw_tbl by 'hts w (by decide +kernel)'), the script of L ints xs at the cell b, what the Statement gives of the start (any of its parts by flat_of_before) -/
def lw_At (p : Program) (s : State) (m : MethodId) (meth : Method) (c : Code) (b L : Nat) (xs : Nat → Int32) : Prop :=
  p.tables.exec = Jvm.exec ∧ c.code = code ∧ meth.sig.returnType = ret ∧ c.maxLocals = 10 ∧ s.vm.findClass R_law = some m.cls ∧ (∀ w ∈ lw_tbl, w.before #[Value.ref b] s = true) ∧ va_X b L xs s s.heap ∧ b < s.heap.size ∧ meth.locks = false ∧ (Jvm.Cond.and given_1 narrow_1).before #[Value.ref b] s = true
/-! the entry of the law -/
theorem zstr {args : Array Value} {s : State} {k : Nat} {tx : String} (h1 : (Cond.stringRef "SkatMill" k tx).before args s = true) (h2 : (Cond.exactly (.string "SkatMill" k) "java/lang/String").before args s = true) : ∃ a : Nat, vk_R "SkatMill" k tx a s := by
  obtain ⟨a, c, cA, kA, q1, -⟩ := Cond.exactly_spec (args := args) (first := s) (o := none) (s := s) (idx := []) h2
  exact ⟨a, vk_R.of h1 q1⟩
theorem zN_tbl : ∀ w ∈ zk_N, w ∈ tables_1 := by decide +kernel
theorem zst_NC {s : State} {args : Array Value} (hts : ∀ w ∈ lw_tbl, w.before args s = true) (hq : ∀ w ∈ flatC (Jvm.Cond.and given_1 narrow_1), w.before args s = true) : ∀ q ∈ zk_NC, va_Nc q.1 q.2 s := List.forall_mem_cons.mpr ⟨va_Nc.of (hq _ (List.mem_of_getElem? (i := 42) (by decide +kernel))), List.forall_mem_cons.mpr ⟨va_Nc.of (hq _ (List.mem_of_getElem? (i := 31) (by decide +kernel))), List.forall_mem_cons.mpr ⟨va_Nc.of (hq _ (List.mem_of_getElem? (i := 37) (by decide +kernel))), List.forall_mem_cons.mpr ⟨va_Nc.of (hq _ (List.mem_of_getElem? (i := 32) (by decide +kernel))), List.forall_mem_cons.mpr ⟨va_Nc.of (hq _ (List.mem_of_getElem? (i := 36) (by decide +kernel))), List.forall_mem_cons.mpr ⟨va_Nc.of (hq _ (List.mem_of_getElem? (i := 41) (by decide +kernel))), fun _ h => by cases h⟩⟩⟩⟩⟩⟩
theorem zst_S {s : State} {args : Array Value} (hts : ∀ w ∈ lw_tbl, w.before args s = true) (hq : ∀ w ∈ flatC (Jvm.Cond.and given_1 narrow_1), w.before args s = true) : ∀ q ∈ zk_str, ∃ a : Nat, vk_R "SkatMill" q.1 q.2 a s := List.forall_mem_cons.mpr ⟨zstr (hts _ (List.mem_append_right _ (List.mem_of_getElem? (i := 205) (by decide +kernel)))) (hq _ (List.mem_of_getElem? (i := 43) (by decide +kernel))), List.forall_mem_cons.mpr ⟨zstr (hts _ (List.mem_append_right _ (List.mem_of_getElem? (i := 261) (by decide +kernel)))) (hq _ (List.mem_of_getElem? (i := 70) (by decide +kernel))), List.forall_mem_cons.mpr ⟨zstr (hts _ (List.mem_append_right _ (List.mem_of_getElem? (i := 281) (by decide +kernel)))) (hq _ (List.mem_of_getElem? (i := 103) (by decide +kernel))), List.forall_mem_cons.mpr ⟨zstr (hts _ (List.mem_append_right _ (List.mem_of_getElem? (i := 291) (by decide +kernel)))) (hq _ (List.mem_of_getElem? (i := 133) (by decide +kernel))), List.forall_mem_cons.mpr ⟨zstr (hts _ (List.mem_append_right _ (List.mem_of_getElem? (i := 306) (by decide +kernel)))) (hq _ (List.mem_of_getElem? (i := 168) (by decide +kernel))), List.forall_mem_cons.mpr ⟨zstr (hts _ (List.mem_append_right _ (List.mem_of_getElem? (i := 311) (by decide +kernel)))) (hq _ (List.mem_of_getElem? (i := 202) (by decide +kernel))), List.forall_mem_cons.mpr ⟨zstr (hts _ (List.mem_append_right _ (List.mem_of_getElem? (i := 327) (by decide +kernel)))) (hq _ (List.mem_of_getElem? (i := 247) (by decide +kernel))), List.forall_mem_cons.mpr ⟨zstr (hts _ (List.mem_append_right _ (List.mem_of_getElem? (i := 328) (by decide +kernel)))) (hq _ (List.mem_of_getElem? (i := 278) (by decide +kernel))), List.forall_mem_cons.mpr ⟨zstr (hts _ (List.mem_append_right _ (List.mem_of_getElem? (i := 329) (by decide +kernel)))) (hq _ (List.mem_of_getElem? (i := 321) (by decide +kernel))), List.forall_mem_cons.mpr ⟨zstr (hts _ (List.mem_append_right _ (List.mem_of_getElem? (i := 350) (by decide +kernel)))) (hq _ (List.mem_of_getElem? (i := 366) (by decide +kernel))), List.forall_mem_cons.mpr ⟨zstr (hts _ (List.mem_append_right _ (List.mem_of_getElem? (i := 351) (by decide +kernel)))) (hq _ (List.mem_of_getElem? (i := 413) (by decide +kernel))), List.forall_mem_cons.mpr ⟨zstr (hts _ (List.mem_append_right _ (List.mem_of_getElem? (i := 355) (by decide +kernel)))) (hq _ (List.mem_of_getElem? (i := 457) (by decide +kernel))), List.forall_mem_cons.mpr ⟨zstr (hts _ (List.mem_append_right _ (List.mem_of_getElem? (i := 384) (by decide +kernel)))) (hq _ (List.mem_of_getElem? (i := 498) (by decide +kernel))), List.forall_mem_cons.mpr ⟨zstr (hts _ (List.mem_append_right _ (List.mem_of_getElem? (i := 503) (by decide +kernel)))) (hq _ (List.mem_of_getElem? (i := 543) (by decide +kernel))), List.forall_mem_cons.mpr ⟨zstr (hts _ (List.mem_append_right _ (List.mem_of_getElem? (i := 514) (by decide +kernel)))) (hq _ (List.mem_of_getElem? (i := 595) (by decide +kernel))), List.forall_mem_cons.mpr ⟨zstr (hts _ (List.mem_append_right _ (List.mem_of_getElem? (i := 534) (by decide +kernel)))) (hq _ (List.mem_of_getElem? (i := 652) (by decide +kernel))), List.forall_mem_cons.mpr ⟨zstr (hts _ (List.mem_append_right _ (List.mem_of_getElem? (i := 556) (by decide +kernel)))) (hq _ (List.mem_of_getElem? (i := 694) (by decide +kernel))), List.forall_mem_cons.mpr ⟨zstr (hts _ (List.mem_append_right _ (List.mem_of_getElem? (i := 573) (by decide +kernel)))) (hq _ (List.mem_of_getElem? (i := 738) (by decide +kernel))), List.forall_mem_cons.mpr ⟨zstr (hts _ (List.mem_append_right _ (List.mem_of_getElem? (i := 578) (by decide +kernel)))) (hq _ (List.mem_of_getElem? (i := 788) (by decide +kernel))), fun _ h => by cases h⟩⟩⟩⟩⟩⟩⟩⟩⟩⟩⟩⟩⟩⟩⟩⟩⟩⟩⟩
theorem zst_zk_pts {s : State} {args : Array Value} (hts : ∀ w ∈ lw_tbl, w.before args s = true) (hq : ∀ w ∈ flatC (Jvm.Cond.and given_1 narrow_1), w.before args s = true) {A : Nat → Prop} (hA : ∀ a : Nat, a < s.heap.size → ¬ A a) : ∃ t : Nat, va_Z RX1 "POINTS" "[I" (.ref t) A s s.heap ∧ va_T .int t 8 (fun j => .int (zk_pts j)) A s s.heap := by
  obtain ⟨t, h1, h2⟩ := va_Tof (tm := .static RX1 "POINTS" "[I") (ty := .int) (N := 8) (f := fun j => .int (zk_pts j)) (A := A) (by decide) (hq _ (List.mem_of_getElem? (i := 7) (by decide +kernel))) (va_eqt (hq _ (List.mem_of_getElem? (i := 8) (by decide +kernel)))) (fun j hj => by
    rcases j with _ | _ | _ | _ | _ | _ | _ | _ | j
    · exact va_eqt (hq _ (List.mem_of_getElem? (i := 9) (by decide +kernel)))
    · exact va_eqt (hq _ (List.mem_of_getElem? (i := 10) (by decide +kernel)))
    · exact va_eqt (hq _ (List.mem_of_getElem? (i := 11) (by decide +kernel)))
    · exact va_eqt (hq _ (List.mem_of_getElem? (i := 12) (by decide +kernel)))
    · exact va_eqt (hq _ (List.mem_of_getElem? (i := 13) (by decide +kernel)))
    · exact va_eqt (hq _ (List.mem_of_getElem? (i := 14) (by decide +kernel)))
    · exact va_eqt (hq _ (List.mem_of_getElem? (i := 15) (by decide +kernel)))
    · exact va_eqt (hq _ (List.mem_of_getElem? (i := 16) (by decide +kernel)))
    · exact absurd hj (by omega)) hA
  exact ⟨t, va_Zof (hts _ (List.mem_append_right _ (List.mem_of_getElem? (i := 339) (by decide +kernel)))) (hts _ (List.mem_append_right _ (List.mem_of_getElem? (i := 4) (by decide +kernel)))) h1 hA, h2⟩
theorem zst_zk_ord {s : State} {args : Array Value} (hts : ∀ w ∈ lw_tbl, w.before args s = true) (hq : ∀ w ∈ flatC (Jvm.Cond.and given_1 narrow_1), w.before args s = true) {A : Nat → Prop} (hA : ∀ a : Nat, a < s.heap.size → ¬ A a) : ∃ t : Nat, va_Z RX1 "ORDER_IN_NULL" "[I" (.ref t) A s s.heap ∧ va_T .int t 8 (fun j => .int (zk_ord j)) A s s.heap := by
  obtain ⟨t, h1, h2⟩ := va_Tof (tm := .static RX1 "ORDER_IN_NULL" "[I") (ty := .int) (N := 8) (f := fun j => .int (zk_ord j)) (A := A) (by decide) (hq _ (List.mem_of_getElem? (i := 18) (by decide +kernel))) (va_eqt (hq _ (List.mem_of_getElem? (i := 19) (by decide +kernel)))) (fun j hj => by
    rcases j with _ | _ | _ | _ | _ | _ | _ | _ | j
    · exact va_eqt (hq _ (List.mem_of_getElem? (i := 20) (by decide +kernel)))
    · exact va_eqt (hq _ (List.mem_of_getElem? (i := 21) (by decide +kernel)))
    · exact va_eqt (hq _ (List.mem_of_getElem? (i := 22) (by decide +kernel)))
    · exact va_eqt (hq _ (List.mem_of_getElem? (i := 23) (by decide +kernel)))
    · exact va_eqt (hq _ (List.mem_of_getElem? (i := 24) (by decide +kernel)))
    · exact va_eqt (hq _ (List.mem_of_getElem? (i := 25) (by decide +kernel)))
    · exact va_eqt (hq _ (List.mem_of_getElem? (i := 26) (by decide +kernel)))
    · exact va_eqt (hq _ (List.mem_of_getElem? (i := 27) (by decide +kernel)))
    · exact absurd hj (by omega)) hA
  exact ⟨t, va_Zof (hts _ (List.mem_append_right _ (List.mem_of_getElem? (i := 413) (by decide +kernel)))) (hts _ (List.mem_append_right _ (List.mem_of_getElem? (i := 4) (by decide +kernel)))) h1 hA, h2⟩
theorem zst_V {s : State} {args : Array Value} (hts : ∀ w ∈ lw_tbl, w.before args s = true) (hq : ∀ w ∈ flatC (Jvm.Cond.and given_1 narrow_1), w.before args s = true) {A : Nat → Prop} (hA : ∀ a : Nat, a < s.heap.size → ¬ A a) : zk_V A s :=
  ⟨⟨fun w hw => va_Nw.of (zk_N_tab w hw) (hts w (List.mem_append_right _ (zN_tbl w hw))), zst_NC hts hq, zst_S hts hq⟩, zst_zk_pts hts hq hA, zst_zk_ord hts hq hA,
    vx_Zqof (hts _ (List.mem_append_right _ (List.mem_of_getElem? (i := 191) (by decide +kernel)))) (hts _ (List.mem_append_right _ (List.mem_of_getElem? (i := 5) (by decide +kernel)))) (hq _ (List.mem_of_getElem? (i := 4) (by decide +kernel))) hA, vx_Zqof (hts _ (List.mem_append_right _ (List.mem_of_getElem? (i := 193) (by decide +kernel)))) (hts _ (List.mem_append_right _ (List.mem_of_getElem? (i := 5) (by decide +kernel)))) (hq _ (List.mem_of_getElem? (i := 5) (by decide +kernel))) hA⟩
theorem zst_A {s : State} {args : Array Value} (h : (Cond.arrayClass .int).before args s = true) : ∃ cA : ClassId, ArrOfT s cA .int ∧ va_RA s cA .int := by
  obtain ⟨cA, kA, comp, hfind, hk, hkind⟩ := Cond.arrayClass_spec h
  exact ⟨cA, fun n z => ⟨fun k h9 => (by cases h9), kA, hk, comp, hkind⟩, hfind⟩
theorem zst_K {s : State} {args : Array Value} (hts : ∀ w ∈ lw_tbl, w.before args s = true) : ∃ (D : va_G) (C : ClassId × ClassId), va_K D vwCl (zk_y C) s := by
  have hz : ∀ w ∈ zG, w.before args s = true := fun w hw => hts w (List.mem_filter.mp hw).1
  obtain ⟨c0, i0, h0⟩ := u_known (C := RX2) (T := TX2) (N := 5) (n := 5) hz zi_RX2 (hts _ (List.mem_append_right _ (List.mem_of_getElem? (i := 22) (by decide +kernel))))
  obtain ⟨c1, i1, h1⟩ := u_known (C := RX3) (T := TX3) (N := 2) (n := 2) hz zi_RX3 (hts _ (List.mem_append_right _ (List.mem_of_getElem? (i := 49) (by decide +kernel))))
  obtain ⟨c2, i2, h2⟩ := u_known (C := RX4) (T := TX4) (N := 16) (n := 16) hz zi_RX4 (hts _ (List.mem_append_right _ (List.mem_of_getElem? (i := 14) (by decide +kernel))))
  obtain ⟨cI, gI, rI⟩ := zst_A (hts _ (List.mem_append_right _ (List.mem_of_getElem? (i := 61) (by decide +kernel))))
  refine ⟨(fun k => [c0, c1, c2].getD k c0, fun k => [i0, i1, i2].getD k i0), (cI, cI), fun k q hq => ?_, fun k q hq => ?_⟩
  · rcases k with _ | _ | _ | k
    · cases hq; exact h0
    · cases hq; exact h1
    · cases hq; exact h2
    · cases hq
  · rcases k with _ | k
    · cases hq; exact ⟨gI, rI⟩
    · cases hq
