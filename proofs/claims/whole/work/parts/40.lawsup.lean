/-! frames, tables of exceptions: for the law -/
section ZL
variable {p : Program} {l : Launch} {e : Env} {R : Room} {s : State} {m : MethodId} {args : Array Value} {below : List Frame} {meth : Method} {c : Code} {cells slots : Nat} {Q : State → Prop} {D : va_G} {C : ClassId × ClassId} {A : Nat → Prop} {K : Heap → List Loc → Prop} {nL : Nat} {ws wc wr : va_W} {cc bytes : ByteArray} {own host : String} {lv : List (Nat × Value)} {rest As : List Value} {pc index n maxL b : Nat} {y : MethodName} {ret : Option FieldType} {rm : Room} {a : Nat → Nat} {u : zU}
theorem zD_l {w1 w2 : va_W} (h : va_D A (w1 ++ w2)) : va_D A w1 := ⟨fun i j p q hi hj e => h.1 i j p q (by rw [List.getElem?_append_left (List.getElem?_eq_some_iff.mp hi).1]; exact hi) (by rw [List.getElem?_append_left (List.getElem?_eq_some_iff.mp hj).1]; exact hj) e, fun k q hk => h.2 k q (by rw [List.getElem?_append_left (List.getElem?_eq_some_iff.mp hk).1]; exact hk)⟩
theorem z_app_r {w1 w2 : va_W} {k : Nat} {q : Nat × va_E} (hk : w2[k]? = some q) : (w1 ++ w2)[w1.length + k]? = some q := by
  rw [List.getElem?_append_right (Nat.le_add_right _ _), Nat.add_sub_cancel_left]; exact hk
theorem z_app_l {w1 w2 : va_W} {k : Nat} {q : Nat × va_E} (hk : w1[k]? = some q) : (w1 ++ w2)[k]? = some q := by
  rw [List.getElem?_append_left (List.getElem?_eq_some_iff.mp hk).1]; exact hk
theorem zD_r {w1 w2 : va_W} (h : va_D A (w1 ++ w2)) : va_D A w2 := ⟨fun i j p q hi hj e => by
  have h1 := h.1 _ _ p q (z_app_r (w1 := w1) hi) (z_app_r (w1 := w1) hj) e
  omega, fun k q hk => h.2 _ q (z_app_r (w1 := w1) hk)⟩
theorem zD_ap {w1 w2 : va_W} (h : va_D A (w1 ++ w2)) {i j : Nat} {p q : Nat × va_E} (hi : w1[i]? = some p) (hj : w2[j]? = some q) : p.1 ≠ q.1 := fun e => by
  have h1 := h.1 _ _ p q (z_app_l (w2 := w2) hi) (z_app_r (w1 := w1) hj) e
  have h2 := (List.getElem?_eq_some_iff.mp hi).1
  omega
theorem zP_l {w1 w2 : va_W} {H : Heap} (h : va_P D vwCl (w1 ++ w2) H) : va_P D vwCl w1 H := fun k q hk => h k q (z_app_l hk)
theorem zP_r {w1 w2 : va_W} {H : Heap} (h : va_P D vwCl (w1 ++ w2) H) : va_P D vwCl w2 H := fun k q hk => h _ q (z_app_r (w1 := w1) hk)
/-- the frame: what lies apart from a callee's cells is kept -/
theorem zfr {H H1 : Heap} (hap : ∀ (i j : Nat) (p q : Nat × va_E), wc[i]? = some p → wr[j]? = some q → p.1 ≠ q.1) (hP : va_P D vwCl wr H) (hk : ∀ q : Nat, q < H.size → ¬ va_A wc H.size q → H1[q]? = H[q]?) : va_P D vwCl wr H1 :=
  hP.kept (fun k q hq => hk q.1 (hP k q hq).lt (fun h => h.elim (fun h => by
    obtain ⟨i, e9, hi⟩ := h
    exact hap i k _ q hi hq rfl) (fun h => Nat.not_le.mpr (hP k q hq).lt h)))
def zWo (C : ClassId × ClassId) (a : Nat → Nat) (o : Nat) (w : zU × (Nat → Int64)) : va_W := zS C a w.1 ++ [(o, .inl (C.2, 1, .inr (.inl w.2)))]
theorem zWo_D {o : Nat} {w : zU × (Nat → Int64)} (w1 : zU × (Nat → Int64)) (h : va_D A (zWo C a o w)) : va_D A (zWo C a o w1) := by
  have key : ∀ (k : Nat) (q : Nat × va_E), (zWo C a o w1)[k]? = some q → ∃ e, (zWo C a o w)[k]? = some (q.1, e) := by
    intro k q hk
    rcases k with _ | _ | _ | _ | _ | _ | _ | _ | k
    all_goals first | (cases hk; exact ⟨_, rfl⟩) | (cases hk)
  refine ⟨fun i j p q hi hj e => ?_, fun k q hk => ?_⟩
  · obtain ⟨x, hx⟩ := key i p hi
    obtain ⟨y, hy⟩ := key j q hj
    exact h.1 i j _ _ hx hy e
  · obtain ⟨x, hx⟩ := key k q hk
    exact h.2 k (q.1, x) hx
theorem zt_out (np : Nat) {o : Nat} {w : zU × (Nat → Int64)} (X : zX p m c cc nL s args own D C A (zk_Km A s)) (hD : va_D A (zWo C a o w)) {x : Int64} (d : decode cc pc = .ok (.lastore, 1)) (hn : pc + 1 = np) (k : zJ p l e R s m args below meth c cells slots Q D (zk_Km A s) nL (zWo C a o (w.1, vp_updL w.2 0 x)) np lv rest) : zJ p l e R s m args below meth c cells slots Q D (zk_Km A s) nL (zWo C a o w) pc lv (.long x :: .int 0 :: .ref o :: rest) := by
  subst hn; exact fun H locs ls hP hK hl => va_last X.1.1 X.1.2.1 X.2.1 hP hD hK 7 1 rfl rfl (vp_in_iff.mpr (by decide)) d (fun H1 locs1 hP1 hD1 hS1 => k H1 locs1 ls hP1 hS1 hl)
def zk_Mw (l : Launch) (y : MethodName) (cc : ByteArray) (maxL : Nat) (hh : List (Nat × Nat × Nat × Nat)) (rm : Room) (mc ms : Nat) (As : List Value) (ws : va_W) (D : va_G) (C : ClassId × ClassId) (Qc : (Nat → Prop) → Array Value → State → Outcome → State → Prop) : Prop :=
  ∀ sz : Nat, Met l y (.codeWith y cc maxL (some .int) hh :: zG) rm (va_Pc As (zk_Bm D C ws sz)) (Qc (va_A ws sz)) mc ms (va_A ws sz)
theorem zk_mw {hh : List (Nat × Nat × Nat × Nat)} {mc ms : Nat} {Qc : (Nat → Prop) → Array Value → State → Outcome → State → Prop}
    (hy : plainName y.cls = true) (hn : (lg_sl As).length ≤ maxL)
    (body : ∀ (p : Program) (e : Env) (s : State) (m : MethodId) (below : List Frame) (meth : Method) (c : Code) (A : Nat → Prop), zX p m c cc maxL s As.toArray y.cls D C A (zk_Km A s) → zY l meth (some .int) → c.exceptionTable.toList = tableOf hh → va_D A ws → (∀ q, s.heap.size ≤ q → A q) →
      zJ p l e rm s m As.toArray below meth c 0 0 (MQ below (Qc A) As.toArray s mc ms A) D (zk_Km A s) maxL ws 0 (lv_args 0 As) []) : zk_Mw l y cc maxL hh rm mc ms As ws D C Qc := by
  intro sz
  refine va_MetW (cc := cc) (maxL := maxL) (ret := some .int) (hh := hh) hy rfl ?_
  intro p e s m args below meth c s₁ B hml hv
  obtain ⟨rfl, rfl, ⟨hP, hK, hV⟩, hD0⟩ := hv
  have hts := atoms_spec B.pre
  exact zk_into hn hP va_S.rf (body p e s m below meth c (va_A ws s.heap.size) ⟨⟨B.exec, B.bytes, hml, findClass_of_methodNamed B.named, fun w hw => hts w (List.mem_cons_of_mem _ hw)⟩, hK, hV, fun H locs h => h⟩ ⟨B.returns, B.notSynchronized⟩ (vx_table (x := y) B (hts _ List.mem_cons_self)) hD0.self (fun q h => Or.inr h))
def zJx (p : Program) (l : Launch) (e : Env) (R : Room) (s : State) (m : MethodId) (args : Array Value) (below : List Frame) (meth : Method) (c : Code) (cells slots : Nat) (Q : State → Prop) (D : va_G) (K : Heap → List Loc → Prop) (nL : Nat) (ws : va_W) (E : String) (pc : Nat) (lv : List (Nat × Value)) (st : List Value) : Prop :=
  ∀ (H : Heap) (locs : List Loc) (ls : Array Slot) (ce : Cell) (q : Addr), va_P D vwCl ws H → K H locs → lv_has ls nL lv → H[q]? = some ce → ce.vm = .none → s.vm.findClass E = some ce.cls → vx_W p l e R s m args below meth c H locs cells slots Q (F0 m pc ls st) q
theorem zJ_catch {name E : String} (X : zX p m c cc nL s args own D C A K) (pre : List ExceptionTableEntry) (x : ExceptionTableEntry) (suf : List ExceptionTableEntry) (hsplit : c.exceptionTable.toList = pre ++ x :: suf)
    (hpass : ∀ z ∈ pre, covers z pc = false ∨ (z.catchType ≠ 0 ∧ ∃ nm : String, Cond.classLink own z.catchType nm ∈ zG ∧ (E, nm) ∈ zk_NC)) (hx : covers x pc = true) (h0 : x.catchType ≠ 0) (hlink : Cond.classLink own x.catchType name ∈ zG) (hcast : Cond.castable E name ∈ zk_N)
    (kk : ∀ q : Nat, zJ p l e R s m args below meth c cells slots Q D K nL ws x.handlerPc lv [.ref q]) : zJx p l e R s m args below meth c cells slots Q D K nL ws E pc lv rest := by
  intro H locs ls ce q hP hK hl hce hcv hcl
  exact vx_catch X.1.2.2.2.1 pre x suf hsplit (fun z hz => (hpass z hz).imp id (fun h => ⟨h.1, by
    obtain ⟨nm, h1, h2⟩ := h.2
    exact ⟨nm, X.1.2.2.2.2 _ h1, X.2.2.1.1.2.1 _ h2⟩⟩)) hx h0 (X.1.2.2.2.2 _ hlink) (va_Nw.use rfl (X.2.2.1.1.1 _ hcast)) hce hcv hcl (kk q H locs ls hP hK hl)
theorem zr_Vx {mc ms : Nat} {Qc : (Nat → Prop) → Array Value → State → Outcome → State → Prop} {XE : String → Prop} (X : zX p m c cc nL s args own D C A K)
    (hM : ∀ sz : Nat, vx_Met l y (.code y bytes maxL ret :: zG) rm (va_Pc (.ref b :: As) (zk_Bm D C ws sz)) (Qc (va_A ws sz)) (vx_X (fun _ : Unit => True) (fun E _ t => XE E ∧ va_P D vwCl ws t.heap) (va_A ws sz)) mc ms (va_A ws sz)) (hw : zcV own index y) (hN : zcN y bytes maxL ret n) (hR : zcR R rm maxL mc ms cells slots) (hO : zcO ws b y.cls) (hD : va_D A ws) (hA : ∀ q, s.heap.size ≤ q → A q) (hn : As.length = n) (hr : (rest.map fun v => v.category).sum ≤ 8) (d : decode cc pc = .ok (.invokevirtual index, 3)) : ∀ (H : Heap) (locs : List Loc) (ls : Array Slot), va_P D vwCl ws H → K H locs → lv_has ls nL lv → vx_Run p l e R s m args below meth c H locs cells slots mc ms (F0 m pc ls (As.reverse ++ .ref b :: rest)) rest (Qc (va_A ws H.size) (Value.ref b :: As).toArray) (vx_X (fun _ : Unit => True) (fun E _ t => XE E ∧ va_P D vwCl ws t.heap) (va_A ws H.size)) (va_A ws H.size) :=
  fun H locs ls hP hK hl => vx_runV X.1 (hM H.size) ⟨zc_cB X hN hR hw.1, X.1.2.2.2.2 _ hw.2.1, X.1.2.2.2.2 _ hw.2.2⟩ ⟨zk_Bm.blind, hO.at X.2.1 hP, fun U hU hW => ⟨rfl, zc_Bm X hP hK hD hA hU hW⟩⟩ rfl hn hl.1 rfl (lv_room hr) d hR.2.2.2
theorem zc_itc (np : Nat) {v : Nat × Int32 × zU} {st0 : List Value} {a9 : Array Value} {mc ms : Nat} (hr : ∀ (H : Heap) (locs : List Loc) (ls : Array Slot), va_P D vwCl (zS C a u) H → zk_Km A s H locs → lv_has ls nL lv → vx_Run p l e R s m args below meth c H locs cells slots mc ms (F0 m pc ls st0) rest (va_Qi (fun r u' => (0, r, u') = v) (fun u' t => va_P D vwCl (zS C a u') t.heap) (va_A (zS C a u) H.size) a9) (vx_X (fun _ : Unit => True) (fun E _ t => zXE v.1 E ∧ va_P D vwCl (zS C a u) t.heap) (va_A (zS C a u) H.size)) (va_A (zS C a u) H.size))
    (hD : va_D A (zS C a u ++ wr)) (hA : ∀ q, s.heap.size ≤ q → A q) (hn : pc + 3 = np) (k : v.1 = 0 → zJ p l e R s m args below meth c (cells + mc) (slots + ms) Q D (zk_Km A s) nL (zS C a v.2.2 ++ wr) np lv (.int v.2.1 :: rest)) (kx : ¬ v.1 = 0 → zJx p l e R s m args below meth c (cells + mc) (slots + ms) Q D (zk_Km A s) nL (zS C a u ++ wr) (zxn v.1) pc lv rest) : zJ p l e R s m args below meth c cells slots Q D (zk_Km A s) nL (zS C a u ++ wr) pc lv st0 := by
  subst hn
  intro H locs ls hP hK hl
  refine vx_calli (hr H locs ls (zP_l hP) hK hl) hK (fun q _ h => zc_F (zD_l hD) hA hK.1 q h) (zc_F (zD_l hD) hA hK.1) (fun q _ h => zc_F (zD_l hD) hA hK.1 q h) (fun E ce q9 u2 t H1 locs1 ht hvm _ hB hz hk hS hce hcv hcl => ?_) (fun r u2 t H1 locs1 ht hvm hp hB hz hk hS => ?_)
  · obtain ⟨⟨h0, rfl⟩, hB⟩ := hB
    exact kx h0 H1 locs1 ls ce q9 (va_P.app (ht ▸ hB) (zfr (fun i j p q => zD_ap hD) (zP_r hP) hk)) hS hl hce hcv hcl
  · subst hp
    exact k rfl H1 locs1 ls (va_P.app (ht ▸ hB) (zfr (fun i j p q => zD_ap hD) (zP_r hP) hk)) hS hl
theorem zc_ltc (np : Nat) {v : Nat × Int64 × zU} {st0 : List Value} {a9 : Array Value} {mc ms : Nat} (hr : ∀ (H : Heap) (locs : List Loc) (ls : Array Slot), va_P D vwCl (zS C a u) H → zk_Km A s H locs → lv_has ls nL lv → vx_Run p l e R s m args below meth c H locs cells slots mc ms (F0 m pc ls st0) rest (va_Ql (fun r u' => (0, r, u') = v) (fun u' t => va_P D vwCl (zS C a u') t.heap) (va_A (zS C a u) H.size) a9) (vx_X (fun _ : Unit => True) (fun E _ t => zXE v.1 E ∧ va_P D vwCl (zS C a u) t.heap) (va_A (zS C a u) H.size)) (va_A (zS C a u) H.size))
    (hD : va_D A (zS C a u ++ wr)) (hA : ∀ q, s.heap.size ≤ q → A q) (hn : pc + 3 = np) (k : v.1 = 0 → zJ p l e R s m args below meth c (cells + mc) (slots + ms) Q D (zk_Km A s) nL (zS C a v.2.2 ++ wr) np lv (.long v.2.1 :: rest)) (kx : ¬ v.1 = 0 → zJx p l e R s m args below meth c (cells + mc) (slots + ms) Q D (zk_Km A s) nL (zS C a u ++ wr) (zxn v.1) pc lv rest) : zJ p l e R s m args below meth c cells slots Q D (zk_Km A s) nL (zS C a u ++ wr) pc lv st0 := by
  subst hn
  intro H locs ls hP hK hl
  refine vx_calll (hr H locs ls (zP_l hP) hK hl) hK (fun q _ h => zc_F (zD_l hD) hA hK.1 q h) (zc_F (zD_l hD) hA hK.1) (fun q _ h => zc_F (zD_l hD) hA hK.1 q h) (fun E ce q9 u2 t H1 locs1 ht hvm _ hB hz hk hS hce hcv hcl => ?_) (fun r u2 t H1 locs1 ht hvm hp hB hz hk hS => ?_)
  · obtain ⟨⟨h0, rfl⟩, hB⟩ := hB
    exact kx h0 H1 locs1 ls ce q9 (va_P.app (ht ▸ hB) (zfr (fun i j p q => zD_ap hD) (zP_r hP) hk)) hS hl hce hcv hcl
  · subst hp
    exact k rfl H1 locs1 ls (va_P.app (ht ▸ hB) (zfr (fun i j p q => zD_ap hD) (zP_r hP) hk)) hS hl
theorem ze_iw {σ : Type} {Wd : σ → va_W} {w : σ} {x : Int32} {v : Int32 × σ} {mc ms : Nat} (hc : cells ≤ mc) (hs : slots ≤ ms) (X : zX p m c cc nL s args own D C A (zk_Km A s)) (Y : zY l meth (some .int)) (h : (x, w) = v) (d : decode cc pc = .ok (.ireturn, 1)) : zJ p l e R s m args below meth c cells slots (MQ below (va_Qi (fun r u' => (r, u') = v) (fun u' t => va_P D vwCl (Wd u') t.heap) A) args s mc ms A) D (zk_Km A s) nL (Wd w) pc lv [.int x] := by
  intro H locs ls hP hK hl
  exact W.widen hc hs (W.iret X.1.1 X.1.2.1 Y.1 (fun t ht hW => ⟨⟨x, w, rfl, h, by show va_P D vwCl (Wd w) t.heap; rw [ht]; exact hP⟩, va_S.F hK ht⟩) hK.2.2 d Y.2)
theorem zr_Sw {hh : List (Nat × Nat × Nat × Nat)} {mc ms : Nat} {Qc : (Nat → Prop) → Array Value → State → Outcome → State → Prop} (X : zX p m c cc nL s args own D C A K) (hM : zk_Mw l y bytes maxL hh rm mc ms As wc D C Qc) (hl0 : Cond.methodLink own index y ∈ zG) (hs : Cond.static y ∈ zG) (hi : Cond.initialized y.cls ∈ zG) (hc : Cond.codeWith y bytes maxL (some .int) hh ∈ zG)
    (hd : y.cls ≠ "java/lang/invoke/MethodHandle" ∧ y.cls ≠ "java/lang/invoke/VarHandle" ∧ (parseMethodDescriptor y.desc).map (fun d => d.parameters.length) = some n) (hR : zcR R rm maxL mc ms cells slots) (hD : va_D A wc) (hA : ∀ q, s.heap.size ≤ q → A q) (hn : As.length = n) (hr : (rest.map fun v => v.category).sum ≤ 8) (d : decode cc pc = .ok (.invokestatic index, 3)) : ∀ (H : Heap) (locs : List Loc) (ls : Array Slot), va_P D vwCl wc H → K H locs → lv_has ls nL lv → va_Run p l e R s m args below meth c H locs cells slots mc ms (F0 m pc ls (As.reverse ++ rest)) rest (Qc (va_A wc H.size) As.toArray) (va_A wc H.size) :=
  fun H locs ls hP hK hl => vx_runSW X.1 (hM H.size) ⟨⟨hR.1, hR.2.1, hR.2.2.1.1, hR.2.2.1.2, pay_in X.1.2.2.2.2 (zG_cons hc), List.mem_cons_self⟩, X.1.2.2.2.2 _ hc, X.1.2.2.2.2 _ hi, ⟨hd.1, hd.2.1⟩, fun sig h => by
    have h2 := hd.2.2
    rw [h] at h2
    exact (Option.some.inj h2).symm, X.1.2.2.2.2 _ hl0, X.1.2.2.2.2 _ hs⟩ ⟨zk_Bm.blind, fun U hU hW => ⟨rfl, zc_Bm X hP hK hD hA hU hW⟩⟩ rfl hn hl.1 rfl (lv_room hr) d hR.2.2.2
theorem zc_ifl (np : Nat) {σ : Type} {Wd : σ → va_W} {v : Int32 × σ} {st0 : List Value} {a9 : Array Value} {mc ms : Nat} (hr : ∀ (H : Heap) (locs : List Loc) (ls : Array Slot), va_P D vwCl wc H → zk_Km A s H locs → lv_has ls nL lv → va_Run p l e R s m args below meth c H locs cells slots mc ms (F0 m pc ls st0) rest (va_Qi (fun r u' => (r, u') = v) (fun u' t => va_P D vwCl (Wd u') t.heap) (va_A wc H.size) a9) (va_A wc H.size)) (hD : va_D A (wc ++ wr)) (hA : ∀ q, s.heap.size ≤ q → A q) (hn : pc + 3 = np) (k : zJ p l e R s m args below meth c (cells + mc) (slots + ms) Q D (zk_Km A s) nL (Wd v.2 ++ wr) np lv (.int v.1 :: rest)) : zJ p l e R s m args below meth c cells slots Q D (zk_Km A s) nL (wc ++ wr) pc lv st0 := by
  subst hn
  exact fun H locs ls hP hK hl => va_calli (hr H locs ls (zP_l hP) hK hl) hK (fun q _ h => zc_F (zD_l hD) hA hK.1 q h) (zc_F (zD_l hD) hA hK.1) (fun r u2 t H1 locs1 ht hvm hp hB hz hk hS => by
    subst hp
    exact k H1 locs1 ls (va_P.app (ht ▸ hB) (zfr (fun i j p q => zD_ap hD) (zP_r hP) hk)) hS hl)
theorem zc_ifr (np : Nat) {σ : Type} {Wd : σ → va_W} {v : Int32 × σ} {st0 : List Value} {a9 : Array Value} {mc ms : Nat} (hr : ∀ (H : Heap) (locs : List Loc) (ls : Array Slot), va_P D vwCl wc H → zk_Km A s H locs → lv_has ls nL lv → va_Run p l e R s m args below meth c H locs cells slots mc ms (F0 m pc ls st0) rest (va_Qi (fun r u' => (r, u') = v) (fun u' t => va_P D vwCl (Wd u') t.heap) (va_A wc H.size) a9) (va_A wc H.size)) (hD : va_D A (wr ++ wc)) (hA : ∀ q, s.heap.size ≤ q → A q) (hn : pc + 3 = np) (k : zJ p l e R s m args below meth c (cells + mc) (slots + ms) Q D (zk_Km A s) nL (wr ++ Wd v.2) np lv (.int v.1 :: rest)) : zJ p l e R s m args below meth c cells slots Q D (zk_Km A s) nL (wr ++ wc) pc lv st0 := by
  subst hn
  exact fun H locs ls hP hK hl => va_calli (hr H locs ls (zP_r hP) hK hl) hK (fun q _ h => zc_F (zD_r hD) hA hK.1 q h) (zc_F (zD_r hD) hA hK.1) (fun r u2 t H1 locs1 ht hvm hp hB hz hk hS => by
    subst hp
    exact k H1 locs1 ls (va_P.app (zfr (fun i j p q hi hj e => zD_ap hD hj hi e.symm) (zP_l hP) hk) (ht ▸ hB)) hS hl)
theorem zc_lfl (np : Nat) {σ : Type} {Wd : σ → va_W} {v : Int64 × σ} {st0 : List Value} {a9 : Array Value} {mc ms : Nat} (hr : ∀ (H : Heap) (locs : List Loc) (ls : Array Slot), va_P D vwCl wc H → zk_Km A s H locs → lv_has ls nL lv → va_Run p l e R s m args below meth c H locs cells slots mc ms (F0 m pc ls st0) rest (va_Ql (fun r u' => (r, u') = v) (fun u' t => va_P D vwCl (Wd u') t.heap) (va_A wc H.size) a9) (va_A wc H.size)) (hD : va_D A (wc ++ wr)) (hA : ∀ q, s.heap.size ≤ q → A q) (hn : pc + 3 = np) (k : zJ p l e R s m args below meth c (cells + mc) (slots + ms) Q D (zk_Km A s) nL (Wd v.2 ++ wr) np lv (.long v.1 :: rest)) : zJ p l e R s m args below meth c cells slots Q D (zk_Km A s) nL (wc ++ wr) pc lv st0 := by
  subst hn
  exact fun H locs ls hP hK hl => va_calll (hr H locs ls (zP_l hP) hK hl) hK (fun q _ h => zc_F (zD_l hD) hA hK.1 q h) (zc_F (zD_l hD) hA hK.1) (fun r u2 t H1 locs1 ht hvm hp hB hz hk hS => by
    subst hp
    exact k H1 locs1 ls (va_P.app (ht ▸ hB) (zfr (fun i j p q => zD_ap hD) (zP_r hP) hk)) hS hl)
theorem zc_lfr (np : Nat) {σ : Type} {Wd : σ → va_W} {v : Int64 × σ} {st0 : List Value} {a9 : Array Value} {mc ms : Nat} (hr : ∀ (H : Heap) (locs : List Loc) (ls : Array Slot), va_P D vwCl wc H → zk_Km A s H locs → lv_has ls nL lv → va_Run p l e R s m args below meth c H locs cells slots mc ms (F0 m pc ls st0) rest (va_Ql (fun r u' => (r, u') = v) (fun u' t => va_P D vwCl (Wd u') t.heap) (va_A wc H.size) a9) (va_A wc H.size)) (hD : va_D A (wr ++ wc)) (hA : ∀ q, s.heap.size ≤ q → A q) (hn : pc + 3 = np) (k : zJ p l e R s m args below meth c (cells + mc) (slots + ms) Q D (zk_Km A s) nL (wr ++ Wd v.2) np lv (.long v.1 :: rest)) : zJ p l e R s m args below meth c cells slots Q D (zk_Km A s) nL (wr ++ wc) pc lv st0 := by
  subst hn
  exact fun H locs ls hP hK hl => va_calll (hr H locs ls (zP_r hP) hK hl) hK (fun q _ h => zc_F (zD_r hD) hA hK.1 q h) (zc_F (zD_r hD) hA hK.1) (fun r u2 t H1 locs1 ht hvm hp hB hz hk hS => by
    subst hp
    exact k H1 locs1 ls (va_P.app (zfr (fun i j p q hi hj e => zD_ap hD hj hi e.symm) (zP_l hP) hk) (ht ▸ hB)) hS hl)
end ZL
