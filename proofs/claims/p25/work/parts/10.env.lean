/-! The environment that every contract of this claim carries, the words that a call keeps (zG), and the judgement zJ: a walk at a pc with locals, stack and world. -/
def zk_pts : Nat → Int32 := fun j => ([0, 0, 0, 3, 4, 10, 11, 2] : List Int32).getD j 0
def zk_ord : Nat → Int32 := fun j => ([0, 1, 2, 5, 6, 3, 7, 4] : List Int32).getD j 0
def zk_N : List Cond := [.methodLinkNest "SkatMill" 9 ⟨"SkatMill$Seat", "<init>", "()V"⟩ "SkatMill", .fieldLinkNest "SkatMill" 111 "SkatMill$Seat" "cards" "J" "SkatMill", .fieldLinkNest "SkatMill" 306 "SkatMill$Seat" "laid" "J" "SkatMill", .fieldLinkNest "SkatMill" 155 "SkatMill$Seat" "pointsWon" "I" "SkatMill", .fieldLinkNest "SkatMill" 215 "SkatMill$Seat" "tricksWon" "I" "SkatMill", .fieldLinkNest "SkatMill" 229 "SkatMill$Seat" "total" "I" "SkatMill", .methodLinkNest "SkatMill" 24 ⟨"SkatMill$Trick", "<init>", "()V"⟩ "SkatMill", .methodLinkNest "SkatMill" 234 ⟨"SkatMill$Seat", "startDeal", "()V"⟩ "SkatMill", .methodLinkNest "SkatMill" 201 ⟨"SkatMill$Trick", "clear", "()V"⟩ "SkatMill", .methodLinkNest "SkatMill" 124 ⟨"SkatMill$Cards", "setOf", "(I)J"⟩ "SkatMill", .castable "java/lang/IndexOutOfBoundsException" "java/lang/IndexOutOfBoundsException", .declares ⟨"java/lang/RuntimeException", "<init>", "(Ljava/lang/String;)V"⟩, .declares ⟨"java/lang/Exception", "<init>", "(Ljava/lang/String;)V"⟩, .declares ⟨"java/lang/Throwable", "<init>", "(Ljava/lang/String;)V"⟩, .castable "java/lang/IllegalArgumentException" "java/lang/IllegalArgumentException", .methodLinkNest "SkatMill" 58 ⟨"SkatMill$Bids", "isBid", "(I)Z"⟩ "SkatMill", .castable "java/lang/IllegalStateException" "java/lang/IllegalStateException", .methodLinkNest "SkatMill" 134 ⟨"SkatMill$Cards", "pointsIn", "(J)I"⟩ "SkatMill", .methodLinkNest "SkatMill" 257 ⟨"SkatMill$Trick", "isEmpty", "()Z"⟩ "SkatMill", .methodLinkNest "SkatMill" 212 ⟨"SkatMill$Trick", "cardAt", "(I)I"⟩ "SkatMill", .methodLinkNest "SkatMill" 260 ⟨"SkatMill$Cards", "colourOf", "(II)J"⟩ "SkatMill", .methodLinkNest "SkatMill" 181 ⟨"SkatMill$Seat", "lay", "(I)V"⟩ "SkatMill", .methodLinkNest "SkatMill$Seat" 23 ⟨"SkatMill$Cards", "setOf", "(I)J"⟩ "SkatMill", .methodLinkNest "SkatMill" 184 ⟨"SkatMill$Trick", "add", "(I)V"⟩ "SkatMill", .methodLinkNest "SkatMill" 187 ⟨"SkatMill$Trick", "isComplete", "()Z"⟩ "SkatMill", .methodLinkNest "SkatMill" 264 ⟨"SkatMill$Trick", "winningPlace", "(I)I"⟩ "SkatMill", .methodLinkNest "SkatMill$Trick" 28 ⟨"SkatMill$Cards", "strength", "(III)I"⟩ "SkatMill", .methodLinkNest "SkatMill" 195 ⟨"SkatMill$Trick", "sumOfPoints", "()I"⟩ "SkatMill", .methodLinkNest "SkatMill$Trick" 23 ⟨"SkatMill$Cards", "pointsOf", "(I)I"⟩ "SkatMill", .methodLinkNest "SkatMill" 198 ⟨"SkatMill$Seat", "win", "(I)V"⟩ "SkatMill", .methodLinkNest "SkatMill" 279 ⟨"SkatMill$Seat", "loseRamschWith", "(I)V"⟩ "SkatMill", .methodLinkNest "SkatMill" 169 ⟨"SkatMill$Cards", "runOfTrumps", "(JI)I"⟩ "SkatMill", .methodLinkNest "SkatMill" 95 ⟨"SkatMill$Bids", "leastAbove", "(I)I"⟩ "SkatMill"]
def zk_NC : List (String × String) := [("java/lang/IllegalArgumentException", "java/lang/IllegalStateException"), ("java/lang/IllegalArgumentException", "java/lang/IndexOutOfBoundsException"), ("java/lang/IllegalStateException", "java/lang/IllegalArgumentException"), ("java/lang/IllegalStateException", "java/lang/IndexOutOfBoundsException"), ("java/lang/IndexOutOfBoundsException", "java/lang/IllegalArgumentException"), ("java/lang/IndexOutOfBoundsException", "java/lang/IllegalStateException")]
def zk_str : List (Nat × String) := [(232, "there is no such player"), (43, "a deal's number is 0 or more"), (64, "this is none of the bids"), (71, "this bid is not possible now"), (83, "there is no bid to be held"), (85, "it is not the time to bid or to hold"), (119, "there is no such card"), (122, "two different cards are put away"), (130, "these cards can't be put away now"), (138, "there is no such contract or extra"), (140, "it is not the time to announce"), (146, "this extra is not possible"), (179, "this card can't be played now"), (101, "it is not the time to take the skat"), (93, "no bid is looked for behind this number"), (173, "no card is to be played"), (218, "there is no contract yet"), (210, "a trick has the places 0 to 2"), (164, "there are no trumps to count for this contract")]
def zk_E (U : State) : Prop := (∀ w ∈ zk_N, va_Nw w U) ∧ (∀ q ∈ zk_NC, va_Nc q.1 q.2 U) ∧ ∀ q ∈ zk_str, ∃ a : Nat, vk_R "SkatMill" q.1 q.2 a U
def zk_T (A : Nat → Prop) (U : State) (H : Heap) : Prop := (∃ t : Nat, va_Z RX1 "POINTS" "[I" (.ref t) A U H ∧ va_T .int t 8 (fun j => .int (zk_pts j)) A U H) ∧ (∃ t : Nat, va_Z RX1 "ORDER_IN_NULL" "[I" (.ref t) A U H ∧ va_T .int t 8 (fun j => .int (zk_ord j)) A U H) ∧ vx_Zq Bundle.tN "UNASSIGNED_STACK" Bundle.steD A U H ∧ vx_Zq Bundle.tN "SUPPRESSED_SENTINEL" Bundle.listD A U H
def zk_V (A : Nat → Prop) (U : State) : Prop := zk_E U ∧ zk_T A U U.heap
theorem zk_N_warm : ∀ w ∈ zk_N, ∀ (s U : State), s.WarmedH U.vm → va_Nw w s → va_Nw w U := List.forall_mem_cons.mpr ⟨fun _ _ h => va_Nw.warmM h, List.forall_mem_cons.mpr ⟨fun _ _ h => va_Nw.warmF h, List.forall_mem_cons.mpr ⟨fun _ _ h => va_Nw.warmF h, List.forall_mem_cons.mpr ⟨fun _ _ h => va_Nw.warmF h, List.forall_mem_cons.mpr ⟨fun _ _ h => va_Nw.warmF h, List.forall_mem_cons.mpr ⟨fun _ _ h => va_Nw.warmF h, List.forall_mem_cons.mpr ⟨fun _ _ h => va_Nw.warmM h, List.forall_mem_cons.mpr ⟨fun _ _ h => va_Nw.warmM h, List.forall_mem_cons.mpr ⟨fun _ _ h => va_Nw.warmM h, List.forall_mem_cons.mpr ⟨fun _ _ h => va_Nw.warmM h, List.forall_mem_cons.mpr ⟨fun _ _ h => va_Nw.warmC h, List.forall_mem_cons.mpr ⟨fun _ _ h => va_Nw.warmD h, List.forall_mem_cons.mpr ⟨fun _ _ h => va_Nw.warmD h, List.forall_mem_cons.mpr ⟨fun _ _ h => va_Nw.warmD h, List.forall_mem_cons.mpr ⟨fun _ _ h => va_Nw.warmC h, List.forall_mem_cons.mpr ⟨fun _ _ h => va_Nw.warmM h, List.forall_mem_cons.mpr ⟨fun _ _ h => va_Nw.warmC h, List.forall_mem_cons.mpr ⟨fun _ _ h => va_Nw.warmM h, List.forall_mem_cons.mpr ⟨fun _ _ h => va_Nw.warmM h, List.forall_mem_cons.mpr ⟨fun _ _ h => va_Nw.warmM h, List.forall_mem_cons.mpr ⟨fun _ _ h => va_Nw.warmM h, List.forall_mem_cons.mpr ⟨fun _ _ h => va_Nw.warmM h, List.forall_mem_cons.mpr ⟨fun _ _ h => va_Nw.warmM h, List.forall_mem_cons.mpr ⟨fun _ _ h => va_Nw.warmM h, List.forall_mem_cons.mpr ⟨fun _ _ h => va_Nw.warmM h, List.forall_mem_cons.mpr ⟨fun _ _ h => va_Nw.warmM h, List.forall_mem_cons.mpr ⟨fun _ _ h => va_Nw.warmM h, List.forall_mem_cons.mpr ⟨fun _ _ h => va_Nw.warmM h, List.forall_mem_cons.mpr ⟨fun _ _ h => va_Nw.warmM h, List.forall_mem_cons.mpr ⟨fun _ _ h => va_Nw.warmM h, List.forall_mem_cons.mpr ⟨fun _ _ h => va_Nw.warmM h, List.forall_mem_cons.mpr ⟨fun _ _ h => va_Nw.warmM h, List.forall_mem_cons.mpr ⟨fun _ _ h => va_Nw.warmM h, fun _ h => absurd h List.not_mem_nil⟩⟩⟩⟩⟩⟩⟩⟩⟩⟩⟩⟩⟩⟩⟩⟩⟩⟩⟩⟩⟩⟩⟩⟩⟩⟩⟩⟩⟩⟩⟩⟩⟩
theorem zk_N_tab : ∀ w ∈ zk_N, w.onTables = true := List.all_eq_true.mp rfl
theorem zk_E.warm {s U : State} (hW : s.WarmedH U.vm) (h : zk_E s) : zk_E U := ⟨fun w hw => zk_N_warm w hw s U hW (h.1 w hw), fun q hq => va_Nc.moved hW.alike (h.2.1 q hq), fun q hq => by
  obtain ⟨a, ha⟩ := h.2.2 q hq
  exact ⟨a, vk_R.warm hW ha⟩⟩
theorem zk_E.same {s U : State} (hv : s.vm = U.vm) (h : zk_E s) : zk_E U := ⟨fun w hw => va_Nw.same (zk_N_tab w hw) hv (h.1 w hw), fun q hq => va_Nc.moved (by rw [hv]; exact Vm.Alike.refl U.vm) (h.2.1 q hq), fun q hq => by
  obtain ⟨a, ha⟩ := h.2.2 q hq
  exact ⟨a, vk_R.same hv.symm ha⟩⟩
theorem zk_T.moved {A : Nat → Prop} {s U : State} {H : Heap} (hvm : s.vm.Alike U.vm) (h : zk_T A s H) : zk_T A U H := by
  obtain ⟨⟨t1, a1, b1⟩, ⟨t2, a2, b2⟩, h3, h4⟩ := h
  exact ⟨⟨t1, a1.moved hvm, b1.moved hvm⟩, ⟨t2, a2.moved hvm, b2.moved hvm⟩, vx_Zq.moved hvm h3, vx_Zq.moved hvm h4⟩
theorem zk_T.kept {A : Nat → Prop} {U : State} {H H1 : Heap} (h : zk_T A U H) (hq : ∀ a : Nat, a < H.size → ¬ A a → H1[a]? = H[a]?) : zk_T A U H1 := by
  obtain ⟨⟨t1, a1, b1⟩, ⟨t2, a2, b2⟩, h3, h4⟩ := h
  exact ⟨⟨t1, a1.kept hq, b1.kept hq⟩, ⟨t2, a2.kept hq, b2.kept hq⟩, h3.kept hq, h4.kept hq⟩
theorem zk_T.narrow {A B : Nat → Prop} {U : State} {H : Heap} (h : zk_T A U H) (hAB : ∀ q, B q → A q) : zk_T B U H := by
  obtain ⟨⟨t1, a1, b1⟩, ⟨t2, a2, b2⟩, h3, h4⟩ := h
  exact ⟨⟨t1, a1.narrow hAB, b1.narrow hAB⟩, ⟨t2, a2.narrow hAB, b2.narrow hAB⟩, h3.narrow hAB, h4.narrow hAB⟩
theorem zk_V.to {A B : Nat → Prop} {s U : State} {H : Heap} {locs : List Loc} (h : zk_V A s) (hS : va_S A s.heap H locs) (hU : U.heap = H) (hW : s.WarmedH U.vm) (hAB : ∀ q, B q → A q) : zk_V B U := by
  refine ⟨h.1.warm hW, ?_⟩
  rw [hU]
  exact ((h.2.moved hW.alike).kept hS.2.1).narrow hAB
theorem zk_V.same {A : Nat → Prop} {s U : State} (hv : s.vm = U.vm) (hh : s.heap = U.heap) (h : zk_V A s) : zk_V A U := by
  refine ⟨h.1.same hv, ?_⟩
  rw [← hh]
  exact h.2.moved (by rw [hv]; exact Vm.Alike.refl U.vm)
theorem zk_V.narrow {A B : Nat → Prop} {s : State} (h : zk_V A s) (hAB : ∀ q, B q → A q) : zk_V B s := ⟨h.1, h.2.narrow hAB⟩
/-! words -/
def zG : List Cond := lw_tbl.filter goodWord
theorem zG_of {w : Cond} (h : w ∈ lw_tbl) (hg : goodWord w = true) : w ∈ zG := List.mem_filter.mpr ⟨h, hg⟩
theorem zG_t {w : Cond} (i : Nat) (h : tables_1[i]? = some w) (hg : goodWord w = true) : w ∈ zG := zG_of (List.mem_append_right _ (List.mem_of_getElem? h)) hg
theorem zG_s {w : Cond} (i : Nat) (h : (k2_sels lw_privs)[i]? = some w) (hg : goodWord w = true) : w ∈ zG := zG_of (List.mem_append_left _ (List.mem_of_getElem? h)) hg
theorem zG_self : GoodIn zG zG := fun _ h => ⟨h, good_of_word (List.mem_filter.mp h).2⟩
theorem zG_cons {w : Cond} (h : w ∈ zG) : GoodIn zG (w :: zG) := fun _ h' => (List.mem_cons.mp h').elim (fun e => by rw [e]; exact zG_self _ h) (zG_self _)
theorem zG_in {C : String} {T : u_T} {N : Nat} (h : ∀ w ∈ u_ws C T N, w ∈ lw_tbl) (hg : (u_ws C T N).all goodWord = true) : ∀ w ∈ u_ws C T N, w ∈ zG := fun w hw => zG_of (h w hw) (List.all_eq_true.mp hg w hw)
/-! contracts -/
abbrev zk_y (C : ClassId × ClassId) : List (ClassId × FieldType) := [(C.1, .int)]
def zk_B (D : va_G) (C : ClassId × ClassId) (ws : va_W) (A : Nat → Prop) (U : State) : Prop := va_P D vwCl ws U.heap ∧ va_K D vwCl (zk_y C) U ∧ zk_V A U
def zk_Bm (D : va_G) (C : ClassId × ClassId) (ws : va_W) (sz : Nat) (U : State) : Prop := U.heap.size = sz ∧ zk_B D C ws (va_A ws sz) U ∧ va_D (fun _ => True) ws
theorem zk_B.blind {D : va_G} {C : ClassId × ClassId} {ws : va_W} {A : Nat → Prop} {As : List Value} : FrameBlind (va_Pc As (zk_B D C ws A)) := fun a U g mk h => ⟨h.1, h.2.1, va_K.moved (u := U) (U := U.calling g mk a) (Vm.Alike.refl U.vm) h.2.2.1, zk_V.same (s := U) (U := U.calling g mk a) rfl rfl h.2.2.2⟩
theorem zk_Bm.blind {D : va_G} {C : ClassId × ClassId} {ws : va_W} {sz : Nat} {As : List Value} : FrameBlind (va_Pc As (zk_Bm D C ws sz)) := fun a U g mk h => ⟨h.1, h.2.1, (zk_B.blind a U g mk ⟨h.1, h.2.2.1⟩).2, h.2.2.2⟩
/-- a method that reads alone -/
def zk_Mp (l : Launch) (y : MethodName) (cc : ByteArray) (maxL : Nat) (ret : Option FieldType) (rm : Room) (As : List Value) (ws : va_W) (D : va_G) (C : ClassId × ClassId) (Qc : Array Value → State → Outcome → State → Prop) : Prop :=
  Met l y (.code y cc maxL ret :: zG) rm (va_Pc As (zk_B D C ws (fun _ => False))) Qc 0 0 (fun _ => False)
/-- a method that writes the world, and makes nothing -/
def zk_Mm (l : Launch) (y : MethodName) (cc : ByteArray) (maxL : Nat) (ret : Option FieldType) (rm : Room) (As : List Value) (ws : va_W) (D : va_G) (C : ClassId × ClassId) (Qc : (Nat → Prop) → Array Value → State → Outcome → State → Prop) : Prop :=
  ∀ sz : Nat, Met l y (.code y cc maxL ret :: zG) rm (va_Pc As (zk_Bm D C ws sz)) (Qc (va_A ws sz)) 0 0 (va_A ws sz)
/-- a method that writes the world or throws; with it a cell of six slots may come -/
def zk_Mt (l : Launch) (y : MethodName) (cc : ByteArray) (maxL : Nat) (ret : Option FieldType) (rm : Room) (As : List Value) (ws : va_W) (D : va_G) (C : ClassId × ClassId) (Qc : (Nat → Prop) → Array Value → State → Outcome → State → Prop) (X : String → Prop) : Prop :=
  ∀ sz : Nat, vx_Met l y (.code y cc maxL ret :: zG) rm (va_Pc As (zk_Bm D C ws sz)) (Qc (va_A ws sz)) (vx_X (fun _ : Unit => True) (fun E _ t => X E ∧ sz < t.heap.size ∧ va_P D vwCl ws t.heap) (va_A ws sz)) 1 6 (va_A ws sz)
/-! the walk -/
def zk_K0 (s : State) : Heap → List Loc → Prop := fun H locs => H = s.heap ∧ locs = []
def zk_Km (A : Nat → Prop) (s : State) : Heap → List Loc → Prop := fun H locs => va_S A s.heap H locs
def zJ (p : Program) (l : Launch) (e : Env) (R : Room) (s : State) (m : MethodId) (args : Array Value) (below : List Frame) (meth : Method) (c : Code) (cells slots : Nat) (Q : State → Prop) (D : va_G) (K : Heap → List Loc → Prop) (nL : Nat) (ws : va_W) (pc : Nat) (lv : List (Nat × Value)) (st : List Value) : Prop :=
  ∀ (H : Heap) (locs : List Loc) (ls : Array Slot), va_P D vwCl ws H → K H locs → lv_has ls nL lv → W p l e R s m args below meth c H locs cells slots Q (F0 m pc ls st)
def zX (p : Program) (m : MethodId) (c : Code) (cc : ByteArray) (nL : Nat) (s : State) (args : Array Value) (own : String) (D : va_G) (C : ClassId × ClassId) (A : Nat → Prop) (K : Heap → List Loc → Prop) : Prop :=
  CallFix p m c cc nL s args zG own ∧ va_K D vwCl (zk_y C) s ∧ zk_V A s ∧ ∀ H locs, K H locs → va_S A s.heap H locs
/-- what a method's end wants -/
def zY (l : Launch) (meth : Method) (ret : Option FieldType) : Prop := meth.sig.returnType = ret ∧ meth.locks = false
theorem zk_into {p : Program} {l : Launch} {e : Env} {R : Room} {s : State} {m : MethodId} {below : List Frame} {meth : Method} {c : Code} {Q : State → Prop} {D : va_G} {K : Heap → List Loc → Prop} {nL : Nat} {ws : va_W} {As : List Value}
    (hn : (lg_sl As).length ≤ nL) (hP : va_P D vwCl ws s.heap) (hK : K s.heap []) (k : zJ p l e R s m As.toArray below meth c 0 0 Q D K nL ws 0 (lv_args 0 As) []) : W p l e R s m As.toArray below meth c s.heap [] 0 0 Q (entryFrame m As.toArray nL) := by
  rw [lg_entry_eq]
  exact k _ _ _ hP hK (lv_entry As hn)
theorem zk_mp {l : Launch} {y : MethodName} {cc : ByteArray} {maxL : Nat} {ret : Option FieldType} {rm : Room} {As : List Value} {ws : va_W} {D : va_G} {C : ClassId × ClassId} {Qc : Array Value → State → Outcome → State → Prop}
    (hy : plainName y.cls = true) (hn : (lg_sl As).length ≤ maxL)
    (body : ∀ (p : Program) (e : Env) (s : State) (m : MethodId) (below : List Frame) (meth : Method) (c : Code), zX p m c cc maxL s As.toArray y.cls D C (fun _ => False) (zk_K0 s) → zY l meth ret →
      zJ p l e rm s m As.toArray below meth c 0 0 (MQ below Qc As.toArray s 0 0 (fun _ => False)) D (zk_K0 s) maxL ws 0 (lv_args 0 As) []) : zk_Mp l y cc maxL ret rm As ws D C Qc := by
  refine Met.ofW (cc := cc) (maxL := maxL) (ret := ret) hy rfl ?_
  intro p e s m args below meth c s₁ B hml hv
  obtain ⟨rfl, hP, hK, hV⟩ := hv
  have hts := atoms_spec B.pre
  refine zk_into hn hP ⟨rfl, rfl⟩ (body p e s m below meth c ⟨⟨B.exec, B.bytes, hml, findClass_of_methodNamed B.named, fun w hw => hts w (List.mem_cons_of_mem _ hw)⟩, hK, hV, fun H locs h => ?_⟩ ⟨B.returns, B.notSynchronized⟩)
  obtain ⟨rfl, rfl⟩ := h
  exact va_S.rf
theorem zk_mm {l : Launch} {y : MethodName} {cc : ByteArray} {maxL : Nat} {ret : Option FieldType} {rm : Room} {As : List Value} {ws : va_W} {D : va_G} {C : ClassId × ClassId} {Qc : (Nat → Prop) → Array Value → State → Outcome → State → Prop}
    (hy : plainName y.cls = true) (hn : (lg_sl As).length ≤ maxL)
    (body : ∀ (p : Program) (e : Env) (s : State) (m : MethodId) (below : List Frame) (meth : Method) (c : Code) (A : Nat → Prop), zX p m c cc maxL s As.toArray y.cls D C A (zk_Km A s) → zY l meth ret → va_D A ws → (∀ q, s.heap.size ≤ q → A q) →
      zJ p l e rm s m As.toArray below meth c 0 0 (MQ below (Qc A) As.toArray s 0 0 A) D (zk_Km A s) maxL ws 0 (lv_args 0 As) []) : zk_Mm l y cc maxL ret rm As ws D C Qc := by
  intro sz
  refine Met.ofW (cc := cc) (maxL := maxL) (ret := ret) hy rfl ?_
  intro p e s m args below meth c s₁ B hml hv
  obtain ⟨rfl, rfl, ⟨hP, hK, hV⟩, hD0⟩ := hv
  have hts := atoms_spec B.pre
  exact zk_into hn hP va_S.rf (body p e s m below meth c (va_A ws s.heap.size) ⟨⟨B.exec, B.bytes, hml, findClass_of_methodNamed B.named, fun w hw => hts w (List.mem_cons_of_mem _ hw)⟩, hK, hV, fun H locs h => h⟩ ⟨B.returns, B.notSynchronized⟩ hD0.self (fun q h => Or.inr h))
theorem zk_mt {l : Launch} {y : MethodName} {cc : ByteArray} {maxL : Nat} {ret : Option FieldType} {rm : Room} {As : List Value} {ws : va_W} {D : va_G} {C : ClassId × ClassId} {Qc : (Nat → Prop) → Array Value → State → Outcome → State → Prop} {X : String → Prop}
    (hy : plainName y.cls = true) (hn : (lg_sl As).length ≤ maxL)
    (body : ∀ (p : Program) (e : Env) (s : State) (m : MethodId) (below : List Frame) (meth : Method) (c : Code) (A : Nat → Prop), zX p m c cc maxL s As.toArray y.cls D C A (zk_Km A s) → zY l meth ret → (∀ x ∈ c.exceptionTable.toList, False) → va_D A ws → (∀ q, s.heap.size ≤ q → A q) →
      zJ p l e rm s m As.toArray below meth c 0 0 (vx_MQ below (Qc A) (vx_X (fun _ : Unit => True) (fun E _ t => X E ∧ s.heap.size < t.heap.size ∧ va_P D vwCl ws t.heap) A) As.toArray s 1 6 A) D (zk_Km A s) maxL ws 0 (lv_args 0 As) []) : zk_Mt l y cc maxL ret rm As ws D C Qc X := by
  intro sz
  refine vx_ofW (cc := cc) (maxL := maxL) (ret := ret) hy rfl ?_
  intro p e s m args below meth c s₁ B hml hnot hv
  obtain ⟨rfl, rfl, ⟨hP, hK, hV⟩, hD0⟩ := hv
  have hts := atoms_spec B.pre
  exact zk_into hn hP va_S.rf (body p e s m below meth c (va_A ws s.heap.size) ⟨⟨B.exec, B.bytes, hml, findClass_of_methodNamed B.named, fun w hw => hts w (List.mem_cons_of_mem _ hw)⟩, hK, hV, fun H locs h => h⟩ ⟨B.returns, B.notSynchronized⟩ hnot hD0.self (fun q h => Or.inr h))
