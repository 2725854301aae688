/-! frames, tables of exceptions, a heap counted from below: for the law -/
section ZL
variable {p : Program} {l : Launch} {e : Env} {R : Room} {s : State} {m : MethodId} {args : Array Value} {below : List Frame} {meth : Method} {c : Code} {cells slots : Nat} {Q : State → Prop} {D : va_G} {C : ClassId × ClassId} {A : Nat → Prop} {K : Heap → List Loc → Prop} {nL : Nat} {ws wc wr : va_W} {cc bytes : ByteArray} {own host : String} {lv : List (Nat × Value)} {rest As : List Value} {pc index n maxL b : Nat} {y : MethodName} {ret : Option FieldType} {rm : Room} {a : Nat → Nat} {u : zU}
theorem zD_l {w1 w2 : va_W} (h : va_D A (w1 ++ w2)) : va_D A w1 := ⟨fun i j p q hi hj e => h.1 i j p q (by rw [List.getElem?_append_left (List.getElem?_eq_some_iff.mp hi).1]; exact hi) (by rw [List.getElem?_append_left (List.getElem?_eq_some_iff.mp hj).1]; exact hj) e, fun k q hk => h.2 k q (by rw [List.getElem?_append_left (List.getElem?_eq_some_iff.mp hk).1]; exact hk)⟩
theorem z_app_r {w1 w2 : va_W} {k : Nat} {q : Nat × va_E} (hk : w2[k]? = some q) : (w1 ++ w2)[w1.length + k]? = some q := by
  rw [List.getElem?_append_right (Nat.le_add_right _ _), Nat.add_sub_cancel_left]; exact hk
theorem z_app_l {w1 w2 : va_W} {k : Nat} {q : Nat × va_E} (hk : w1[k]? = some q) : (w1 ++ w2)[k]? = some q := by
  rw [List.getElem?_append_left (List.getElem?_eq_some_iff.mp hk).1]; exact hk
theorem zD_r {w1 w2 : va_W} (h : va_D A (w1 ++ w2)) : va_D A w2 := ⟨fun i j p q hi hj e => by
  have h1 := h.1 _ _ p q (z_app_r (w1 := w1) hi) (z_app_r (w1 := w1) hj) e
  omega, fun k q hk => h.2 _ q (z_app_r (w1 := w1) hk)⟩
theorem zD_ap {w1 w2 : va_W} (h : va_D A (w1 ++ w2)) {i j : Nat} {p q : Nat × va_E} (hi : w1[i]? = some p) (hj : w2[j]? = some q) : p.1 ≠ q.1 := fun e => by
  have h1 := h.1 _ _ p q (z_app_l (w2 := w2) hi) (z_app_r (w1 := w1) hj) e
  have h2 := (List.getElem?_eq_some_iff.mp hi).1
  omega
theorem zP_l {w1 w2 : va_W} {H : Heap} (h : va_P D vwCl (w1 ++ w2) H) : va_P D vwCl w1 H := fun k q hk => h k q (z_app_l hk)
theorem zP_r {w1 w2 : va_W} {H : Heap} (h : va_P D vwCl (w1 ++ w2) H) : va_P D vwCl w2 H := fun k q hk => h _ q (z_app_r (w1 := w1) hk)
/-- the frame: what lies apart from a callee's cells is kept -/
theorem zfr {H H1 : Heap} (hap : ∀ (i j : Nat) (p q : Nat × va_E), wc[i]? = some p → wr[j]? = some q → p.1 ≠ q.1) (hP : va_P D vwCl wr H) (hk : ∀ q : Nat, q < H.size → ¬ va_A wc H.size q → H1[q]? = H[q]?) : va_P D vwCl wr H1 :=
  hP.kept (fun k q hq => hk q.1 (hP k q hq).lt (fun h => h.elim (fun h => by
    obtain ⟨i, e9, hi⟩ := h
    exact hap i k _ q hi hq rfl) (fun h => Nat.not_le.mpr (hP k q hq).lt h)))
def zJx (p : Program) (l : Launch) (e : Env) (R : Room) (s : State) (m : MethodId) (args : Array Value) (below : List Frame) (meth : Method) (c : Code) (cells slots : Nat) (Q : State → Prop) (D : va_G) (K : Heap → List Loc → Prop) (nL : Nat) (ws : va_W) (E : String) (pc : Nat) (lv : List (Nat × Value)) (st : List Value) : Prop :=
  ∀ (H : Heap) (locs : List Loc) (ls : Array Slot) (ce : Cell) (q : Addr), va_P D vwCl ws H → K H locs → lv_has ls nL lv → H[q]? = some ce → ce.vm = .none → s.vm.findClass E = some ce.cls → vx_W p l e R s m args below meth c H locs cells slots Q (F0 m pc ls st) q
theorem zJ_catch {name E : String} (X : zX p m c cc nL s args own D C A K) (pre : List ExceptionTableEntry) (x : ExceptionTableEntry) (suf : List ExceptionTableEntry) (hsplit : c.exceptionTable.toList = pre ++ x :: suf)
    (hpass : ∀ z ∈ pre, covers z pc = false ∨ (z.catchType ≠ 0 ∧ ∃ nm : String, Cond.classLink own z.catchType nm ∈ zG ∧ (E, nm) ∈ zk_NC)) (hx : covers x pc = true) (h0 : x.catchType ≠ 0) (hlink : Cond.classLink own x.catchType name ∈ zG) (hcast : Cond.castable E name ∈ zk_N)
    (kk : ∀ q : Nat, zJ p l e R s m args below meth c cells slots Q D K nL ws x.handlerPc lv [.ref q]) : zJx p l e R s m args below meth c cells slots Q D K nL ws E pc lv rest := by
  intro H locs ls ce q hP hK hl hce hcv hcl
  exact vx_catch X.1.2.2.2.1 pre x suf hsplit (fun z hz => (hpass z hz).imp id (fun h => ⟨h.1, by
    obtain ⟨nm, h1, h2⟩ := h.2
    exact ⟨nm, X.1.2.2.2.2 _ h1, X.2.2.1.1.2.1 _ h2⟩⟩)) hx h0 (X.1.2.2.2.2 _ hlink) (va_Nw.use rfl (X.2.2.1.1.1 _ hcast)) hce hcv hcl (kk q H locs ls hP hK hl)
theorem zr_Vx {mc ms : Nat} {Qc : (Nat → Prop) → Array Value → State → Outcome → State → Prop} {XE : String → Prop} (X : zX p m c cc nL s args own D C A K)
    (hM : ∀ sz : Nat, vx_Met l y (.code y bytes maxL ret :: zG) rm (va_Pc (.ref b :: As) (zk_Bm D C ws sz)) (Qc (va_A ws sz)) (vx_X (fun _ : Unit => True) (fun E _ t => XE E ∧ sz < t.heap.size ∧ va_P D vwCl ws t.heap) (va_A ws sz)) mc ms (va_A ws sz)) (hw : zcV own index y) (hN : zcN y bytes maxL ret n) (hR : zcR R rm maxL mc ms cells slots) (hO : zcO ws b y.cls) (hD : va_D A ws) (hA : ∀ q, s.heap.size ≤ q → A q) (hn : As.length = n) (hr : (rest.map fun v => v.category).sum ≤ 8) (d : decode cc pc = .ok (.invokevirtual index, 3)) : ∀ (H : Heap) (locs : List Loc) (ls : Array Slot), va_P D vwCl ws H → K H locs → lv_has ls nL lv → vx_Run p l e R s m args below meth c H locs cells slots mc ms (F0 m pc ls (As.reverse ++ .ref b :: rest)) rest (Qc (va_A ws H.size) (Value.ref b :: As).toArray) (vx_X (fun _ : Unit => True) (fun E _ t => XE E ∧ H.size < t.heap.size ∧ va_P D vwCl ws t.heap) (va_A ws H.size)) (va_A ws H.size) :=
  fun H locs ls hP hK hl => vx_runV X.1 (hM H.size) ⟨zc_cB X hN hR hw.1, X.1.2.2.2.2 _ hw.2.1, X.1.2.2.2.2 _ hw.2.2⟩ ⟨zk_Bm.blind, hO.at X.2.1 hP, fun U hU hW => ⟨rfl, zc_Bm X hP hK hD hA hU hW⟩⟩ rfl hn hl.1 rfl (lv_room hr) d hR.2.2.2
/-- the state of a walk that counts: the heap has grown by g at the least -/
def zk_Kn (A : Nat → Prop) (s : State) (g : Nat) : Heap → List Loc → Prop := fun H locs => va_S A s.heap H locs ∧ s.heap.size + g ≤ H.size
theorem zXg {g g' : Nat} (X : zX p m c cc nL s args own D C A (zk_Kn A s g)) : zX p m c cc nL s args own D C A (zk_Kn A s g') := ⟨X.1, X.2.1, X.2.2.1, fun _ _ h => h.1⟩
theorem zj_kn {g : Nat} (g1 : Nat) (h : g1 ≤ g) (k : zJ p l e R s m args below meth c cells slots Q D (zk_Kn A s g1) nL ws pc lv rest) : zJ p l e R s m args below meth c cells slots Q D (zk_Kn A s g) nL ws pc lv rest := fun H locs ls hP hK hl => k H locs ls hP ⟨hK.1, Nat.le_trans (Nat.add_le_add_left h _) hK.2⟩ hl
theorem zj_widen (c1 s1 : Nat) (hc : cells ≤ c1) (hs : slots ≤ s1) (k : zJ p l e R s m args below meth c c1 s1 Q D K nL ws pc lv rest) : zJ p l e R s m args below meth c cells slots Q D K nL ws pc lv rest := fun H locs ls hP hK hl => W.widen hc hs (k H locs ls hP hK hl)
theorem zj_ti {x : Int32} (y : Int32) (h : x = y) (k : zJ p l e R s m args below meth c cells slots Q D K nL ws pc lv (.int y :: rest)) : zJ p l e R s m args below meth c cells slots Q D K nL ws pc lv (.int x :: rest) := by subst h; exact k
theorem zj_tl {x : Int64} (y : Int64) (h : x = y) (k : zJ p l e R s m args below meth c cells slots Q D K nL ws pc lv (.long y :: rest)) : zJ p l e R s m args below meth c cells slots Q D K nL ws pc lv (.long x :: rest) := by subst h; exact k
theorem zj_ldc (np : Nat) (X : zX p m c cc nL s args own D C A K) {index : Nat} {v : Int32} (hw : Cond.constant own index v ∈ zG) (hdg : decode cc pc = .ok (.ldc index, 2)) (hn : pc + 2 = np) (k : zJ p l e R s m args below meth c cells slots Q D K nL ws np lv (.int v :: rest)) : zJ p l e R s m args below meth c cells slots Q D K nL ws pc lv rest := by
  subst hn; exact fun H locs ls hP hK hl => lv_ldc X.1.1 X.1.2.1 X.1.2.2.2.1 (X.1.2.2.2.2 _ hw) hdg (k H locs ls hP hK hl)
/-- a callee's cells among the caller's, and the others kept -/
def zFr (D : va_G) (A : Nat → Prop) (ws wc : va_W) : Prop := va_D A wc ∧ (∀ H : Heap, va_P D vwCl ws H → va_P D vwCl wc H) ∧ ∀ H H1 : Heap, va_P D vwCl ws H → va_P D vwCl wc H1 → (∀ q : Nat, q < H.size → ¬ va_A wc H.size q → H1[q]? = H[q]?) → va_P D vwCl ws H1
theorem zFr_N (hD : va_D A ws) : zFr D A ws ws := ⟨hD, fun _ h => h, fun _ _ _ h _ => h⟩
theorem zFr_L (hD : va_D A (wc ++ wr)) : zFr D A (wc ++ wr) wc := ⟨zD_l hD, fun _ h => zP_l h, fun _ _ hP h1 hk => va_P.app h1 (zfr (fun _ _ _ _ => zD_ap hD) (zP_r hP) hk)⟩
theorem zFr_R (hD : va_D A (wr ++ wc)) : zFr D A (wr ++ wc) wc := ⟨zD_r hD, fun _ h => zP_r h, fun _ _ hP h1 hk => va_P.app (zfr (fun _ _ _ _ hi hj e => zD_ap hD hj hi e.symm) (zP_l hP) hk) h1⟩
theorem zcO_l {w1 w2 : va_W} {q : Nat} {Cn : String} (h : zcO w1 q Cn) : zcO (w1 ++ w2) q Cn := by
  obtain ⟨ci, q0, q, fs, h1, h2, h3⟩ := h
  exact ⟨ci, q0, q, fs, h1, z_app_l h2, h3⟩
theorem zcO_r {w1 w2 : va_W} {q : Nat} {Cn : String} (h : zcO w2 q Cn) : zcO (w1 ++ w2) q Cn := by
  obtain ⟨ci, q0, q, fs, h1, h2, h3⟩ := h
  exact ⟨ci, w1.length + q0, q, fs, h1, z_app_r h2, h3⟩
theorem zc_iq (np : Nat) {w : Int32} {v : Nat × Int32 × zU} {st0 : List Value} {a9 : Array Value} {mc ms g : Nat} (c2 s2 : Nat) (hr : ∀ (H : Heap) (locs : List Loc) (ls : Array Slot), va_P D vwCl (zS C a u) H → zk_Kn A s g H locs → lv_has ls nL lv → vx_Run p l e R s m args below meth c H locs cells slots mc ms (F0 m pc ls st0) rest (va_Qi (fun r u' => (0, r, u') = v) (fun u' t => va_P D vwCl (zS C a u') t.heap) (va_A (zS C a u) H.size) a9) (vx_X (fun _ : Unit => True) (fun E _ t => zXE v.1 E ∧ H.size < t.heap.size ∧ va_P D vwCl (zS C a u) t.heap) (va_A (zS C a u) H.size)) (va_A (zS C a u) H.size)) (hv : v = (0, w, u)) (F : zFr D A ws (zS C a u)) (hA : ∀ q, s.heap.size ≤ q → A q) (hc : cells + mc = c2) (hs : slots + ms = s2) (hn : pc + 3 = np) (k : zJ p l e R s m args below meth c c2 s2 Q D (zk_Kn A s g) nL ws np lv (.int w :: rest)) : zJ p l e R s m args below meth c cells slots Q D (zk_Kn A s g) nL ws pc lv st0 := by
  subst hn; subst hc; subst hs
  intro H locs ls hP hK hl
  refine vx_calli (hr H locs ls (F.2.1 H hP) hK hl) hK.1 (fun q _ h => zc_F F.1 hA hK.1.1 q h) (zc_F F.1 hA hK.1.1) (fun q _ h => zc_F F.1 hA hK.1.1 q h) (fun E ce q9 u2 t H1 locs1 ht hvm _ hB hz hk hS hce hcv hcl => ?_) (fun r u2 t H1 locs1 ht hvm hp hB hz hk hS => ?_)
  · exact absurd (by rw [hv]) hB.1.1
  · rw [hv] at hp
    obtain ⟨-, h2⟩ := Prod.mk.inj hp
    obtain ⟨rfl, rfl⟩ := Prod.mk.inj h2
    exact k H1 locs1 ls (F.2.2 H H1 hP (ht ▸ hB) hk) ⟨hS, Nat.le_trans hK.2 hz⟩ hl
theorem zc_ix {v : Nat × Int32 × zU} {st0 : List Value} {a9 : Array Value} {mc ms g : Nat} (c2 s2 : Nat) (g2 k9 : Nat) (hr : ∀ (H : Heap) (locs : List Loc) (ls : Array Slot), va_P D vwCl (zS C a u) H → zk_Kn A s g H locs → lv_has ls nL lv → vx_Run p l e R s m args below meth c H locs cells slots mc ms (F0 m pc ls st0) rest (va_Qi (fun r u' => (0, r, u') = v) (fun u' t => va_P D vwCl (zS C a u') t.heap) (va_A (zS C a u) H.size) a9) (vx_X (fun _ : Unit => True) (fun E _ t => zXE v.1 E ∧ H.size < t.heap.size ∧ va_P D vwCl (zS C a u) t.heap) (va_A (zS C a u) H.size)) (va_A (zS C a u) H.size)) (hv : v.1 = k9) (h9 : k9 ≠ 0) (F : zFr D A ws (zS C a u)) (hA : ∀ q, s.heap.size ≤ q → A q) (hc : cells + mc = c2) (hs : slots + ms = s2) (hg : g + 1 = g2) (kx : zJx p l e R s m args below meth c c2 s2 Q D (zk_Kn A s g2) nL ws (zxn k9) pc lv rest) : zJ p l e R s m args below meth c cells slots Q D (zk_Kn A s g) nL ws pc lv st0 := by
  subst hc; subst hs; subst hg
  intro H locs ls hP hK hl
  refine vx_calli (hr H locs ls (F.2.1 H hP) hK hl) hK.1 (fun q _ h => zc_F F.1 hA hK.1.1 q h) (zc_F F.1 hA hK.1.1) (fun q _ h => zc_F F.1 hA hK.1.1 q h) (fun E ce q9 u2 t H1 locs1 ht hvm _ hB hz hk hS hce hcv hcl => ?_) (fun r u2 t H1 locs1 ht hvm hp hB hz hk hS => ?_)
  · obtain ⟨⟨h0, rfl⟩, hlt, hB⟩ := hB
    rw [hv] at hcl
    exact kx H1 locs1 ls ce q9 (F.2.2 H H1 hP (ht ▸ hB) hk) ⟨hS, by rw [ht] at hlt; have := hK.2; omega⟩ hl hce hcv hcl
  · exact absurd (by rw [← hv, ← hp]) h9
theorem zc_lq (np : Nat) {w : Int64} {v : Nat × Int64 × zU} {st0 : List Value} {a9 : Array Value} {mc ms g : Nat} (c2 s2 : Nat) (hr : ∀ (H : Heap) (locs : List Loc) (ls : Array Slot), va_P D vwCl (zS C a u) H → zk_Kn A s g H locs → lv_has ls nL lv → vx_Run p l e R s m args below meth c H locs cells slots mc ms (F0 m pc ls st0) rest (va_Ql (fun r u' => (0, r, u') = v) (fun u' t => va_P D vwCl (zS C a u') t.heap) (va_A (zS C a u) H.size) a9) (vx_X (fun _ : Unit => True) (fun E _ t => zXE v.1 E ∧ H.size < t.heap.size ∧ va_P D vwCl (zS C a u) t.heap) (va_A (zS C a u) H.size)) (va_A (zS C a u) H.size)) (hv : v = (0, w, u)) (F : zFr D A ws (zS C a u)) (hA : ∀ q, s.heap.size ≤ q → A q) (hc : cells + mc = c2) (hs : slots + ms = s2) (hn : pc + 3 = np) (k : zJ p l e R s m args below meth c c2 s2 Q D (zk_Kn A s g) nL ws np lv (.long w :: rest)) : zJ p l e R s m args below meth c cells slots Q D (zk_Kn A s g) nL ws pc lv st0 := by
  subst hn; subst hc; subst hs
  intro H locs ls hP hK hl
  refine vx_calll (hr H locs ls (F.2.1 H hP) hK hl) hK.1 (fun q _ h => zc_F F.1 hA hK.1.1 q h) (zc_F F.1 hA hK.1.1) (fun q _ h => zc_F F.1 hA hK.1.1 q h) (fun E ce q9 u2 t H1 locs1 ht hvm _ hB hz hk hS hce hcv hcl => ?_) (fun r u2 t H1 locs1 ht hvm hp hB hz hk hS => ?_)
  · exact absurd (by rw [hv]) hB.1.1
  · rw [hv] at hp
    obtain ⟨-, h2⟩ := Prod.mk.inj hp
    obtain ⟨rfl, rfl⟩ := Prod.mk.inj h2
    exact k H1 locs1 ls (F.2.2 H H1 hP (ht ▸ hB) hk) ⟨hS, Nat.le_trans hK.2 hz⟩ hl
theorem zc_lx {v : Nat × Int64 × zU} {st0 : List Value} {a9 : Array Value} {mc ms g : Nat} (c2 s2 : Nat) (g2 k9 : Nat) (hr : ∀ (H : Heap) (locs : List Loc) (ls : Array Slot), va_P D vwCl (zS C a u) H → zk_Kn A s g H locs → lv_has ls nL lv → vx_Run p l e R s m args below meth c H locs cells slots mc ms (F0 m pc ls st0) rest (va_Ql (fun r u' => (0, r, u') = v) (fun u' t => va_P D vwCl (zS C a u') t.heap) (va_A (zS C a u) H.size) a9) (vx_X (fun _ : Unit => True) (fun E _ t => zXE v.1 E ∧ H.size < t.heap.size ∧ va_P D vwCl (zS C a u) t.heap) (va_A (zS C a u) H.size)) (va_A (zS C a u) H.size)) (hv : v.1 = k9) (h9 : k9 ≠ 0) (F : zFr D A ws (zS C a u)) (hA : ∀ q, s.heap.size ≤ q → A q) (hc : cells + mc = c2) (hs : slots + ms = s2) (hg : g + 1 = g2) (kx : zJx p l e R s m args below meth c c2 s2 Q D (zk_Kn A s g2) nL ws (zxn k9) pc lv rest) : zJ p l e R s m args below meth c cells slots Q D (zk_Kn A s g) nL ws pc lv st0 := by
  subst hc; subst hs; subst hg
  intro H locs ls hP hK hl
  refine vx_calll (hr H locs ls (F.2.1 H hP) hK hl) hK.1 (fun q _ h => zc_F F.1 hA hK.1.1 q h) (zc_F F.1 hA hK.1.1) (fun q _ h => zc_F F.1 hA hK.1.1 q h) (fun E ce q9 u2 t H1 locs1 ht hvm _ hB hz hk hS hce hcv hcl => ?_) (fun r u2 t H1 locs1 ht hvm hp hB hz hk hS => ?_)
  · obtain ⟨⟨h0, rfl⟩, hlt, hB⟩ := hB
    rw [hv] at hcl
    exact kx H1 locs1 ls ce q9 (F.2.2 H H1 hP (ht ▸ hB) hk) ⟨hS, by rw [ht] at hlt; have := hK.2; omega⟩ hl hce hcv hcl
  · exact absurd (by rw [← hv, ← hp]) h9
theorem zc_iv (np : Nat) {v : Int32} (w : Int32) {st0 : List Value} {a9 : Array Value} (hr : ∀ (H : Heap) (locs : List Loc) (ls : Array Slot), va_P D vwCl ws H → K H locs → lv_has ls nL lv → CallRun p l e R s m args below meth c H locs cells slots 0 0 (F0 m pc ls st0) rest (vp_Si (fun r => r = v) a9) (fun _ => False)) (hv : v = w) (hn : pc + 3 = np) (k : zJ p l e R s m args below meth c cells slots Q D K nL ws np lv (.int w :: rest)) : zJ p l e R s m args below meth c cells slots Q D K nL ws pc lv st0 := by
  subst hv; exact zc_i np hr hn k
theorem zc_lv (np : Nat) {v : Int64} (w : Int64) {st0 : List Value} {a9 : Array Value} (hr : ∀ (H : Heap) (locs : List Loc) (ls : Array Slot), va_P D vwCl ws H → K H locs → lv_has ls nL lv → CallRun p l e R s m args below meth c H locs cells slots 0 0 (F0 m pc ls st0) rest (vp_Sl (fun r => r = v) a9) (fun _ => False)) (hv : v = w) (hn : pc + 3 = np) (k : zJ p l e R s m args below meth c cells slots Q D K nL ws np lv (.long w :: rest)) : zJ p l e R s m args below meth c cells slots Q D K nL ws pc lv st0 := by
  subst hv; exact zc_l np hr hn k
def zk_L (l : Launch) (w0 : Cond) (y : MethodName) (rm : Room) (mc ms : Nat) (As : List Value) (ws : va_W) (D : va_G) (C : ClassId × ClassId) (Qc : Nat → (Nat → Prop) → Array Value → State → Outcome → State → Prop) : Prop :=
  ∀ sz : Nat, Met l y (w0 :: zG) rm (va_Pc As (zk_Bm D C ws sz)) (Qc sz (va_A ws sz)) mc ms (va_A ws sz)
def zQi (D : va_G) (ws : va_W) (g : Nat) (r : Int32) : Nat → (Nat → Prop) → Array Value → State → Outcome → State → Prop := fun sz A => va_Qi (fun r' (_ : Unit) => r' = r) (fun _ t => va_P D vwCl ws t.heap ∧ sz + g ≤ t.heap.size) A
def zQl (D : va_G) (ws : va_W) (g : Nat) (r : Int64) : Nat → (Nat → Prop) → Array Value → State → Outcome → State → Prop := fun sz A => va_Ql (fun r' (_ : Unit) => r' = r) (fun _ t => va_P D vwCl ws t.heap ∧ sz + g ≤ t.heap.size) A
theorem zk_Kn0 {s : State} : zk_Kn A s 0 s.heap [] := ⟨va_S.rf, Nat.le_refl _⟩
theorem zk_l {mc ms : Nat} {Qc : Nat → (Nat → Prop) → Array Value → State → Outcome → State → Prop}
    (hy : plainName y.cls = true) (hn : (lg_sl As).length ≤ maxL)
    (body : ∀ (p : Program) (e : Env) (s : State) (m : MethodId) (below : List Frame) (meth : Method) (c : Code) (A : Nat → Prop), zX p m c cc maxL s As.toArray y.cls D C A (zk_Kn A s 0) → zY l meth ret → va_D A ws → (∀ q, s.heap.size ≤ q → A q) →
      zJ p l e rm s m As.toArray below meth c 0 0 (MQ below (Qc s.heap.size A) As.toArray s mc ms A) D (zk_Kn A s 0) maxL ws 0 (lv_args 0 As) []) : zk_L l (.code y cc maxL ret) y rm mc ms As ws D C Qc := by
  intro sz
  refine Met.ofW (cc := cc) (maxL := maxL) (ret := ret) hy rfl ?_
  intro p e s m args below meth c s₁ B hml hv
  obtain ⟨rfl, rfl, ⟨hP, hK, hV⟩, hD0⟩ := hv
  have hts := atoms_spec B.pre
  exact zk_into hn hP zk_Kn0 (body p e s m below meth c (va_A ws s.heap.size) ⟨⟨B.exec, B.bytes, hml, findClass_of_methodNamed B.named, fun w hw => hts w (List.mem_cons_of_mem _ hw)⟩, hK, hV, fun H locs h => h.1⟩ ⟨B.returns, B.notSynchronized⟩ hD0.self (fun q h => Or.inr h))
theorem zk_lw {mc ms : Nat} {hh : List (Nat × Nat × Nat × Nat)} {Qc : Nat → (Nat → Prop) → Array Value → State → Outcome → State → Prop}
    (hy : plainName y.cls = true) (hn : (lg_sl As).length ≤ maxL)
    (body : ∀ (p : Program) (e : Env) (s : State) (m : MethodId) (below : List Frame) (meth : Method) (c : Code) (A : Nat → Prop), zX p m c cc maxL s As.toArray y.cls D C A (zk_Kn A s 0) → zY l meth ret → c.exceptionTable.toList = tableOf hh → va_D A ws → (∀ q, s.heap.size ≤ q → A q) →
      zJ p l e rm s m As.toArray below meth c 0 0 (MQ below (Qc s.heap.size A) As.toArray s mc ms A) D (zk_Kn A s 0) maxL ws 0 (lv_args 0 As) []) : zk_L l (.codeWith y cc maxL ret hh) y rm mc ms As ws D C Qc := by
  intro sz
  refine va_MetW (cc := cc) (maxL := maxL) (ret := ret) (hh := hh) hy rfl ?_
  intro p e s m args below meth c s₁ B hml hv
  obtain ⟨rfl, rfl, ⟨hP, hK, hV⟩, hD0⟩ := hv
  have hts := atoms_spec B.pre
  exact zk_into hn hP zk_Kn0 (body p e s m below meth c (va_A ws s.heap.size) ⟨⟨B.exec, B.bytes, hml, findClass_of_methodNamed B.named, fun w hw => hts w (List.mem_cons_of_mem _ hw)⟩, hK, hV, fun H locs h => h.1⟩ ⟨B.returns, B.notSynchronized⟩ (vx_table (x := y) B (hts _ List.mem_cons_self)) hD0.self (fun q h => Or.inr h))
theorem ze_gi {g g9 mc ms : Nat} {x r : Int32} (hc : cells ≤ mc) (hs : slots ≤ ms) (hg : g ≤ g9) (X : zX p m c cc nL s args own D C A (zk_Kn A s g9)) (Y : zY l meth (some .int)) (h : x = r) (d : decode cc pc = .ok (.ireturn, 1)) : zJ p l e R s m args below meth c cells slots (MQ below (zQi D ws g r s.heap.size A) args s mc ms A) D (zk_Kn A s g9) nL ws pc lv [.int x] := by
  intro H locs ls hP hK hl
  exact W.widen hc hs (W.iret X.1.1 X.1.2.1 Y.1 (fun t ht hW => ⟨⟨x, (), rfl, h, by rw [ht]; exact hP, by rw [ht]; exact Nat.le_trans (Nat.add_le_add_left hg _) hK.2⟩, va_S.F hK.1 ht⟩) hK.1.2.2 d Y.2)
theorem ze_gz {g g9 mc ms : Nat} {x r : Int32} (hc : cells ≤ mc) (hs : slots ≤ ms) (hg : g ≤ g9) (X : zX p m c cc nL s args own D C A (zk_Kn A s g9)) (Y : zY l meth (some .boolean)) (hx : x = 0 ∨ x = 1) (h : x = r) (d : decode cc pc = .ok (.ireturn, 1)) : zJ p l e R s m args below meth c cells slots (MQ below (zQi D ws g r s.heap.size A) args s mc ms A) D (zk_Kn A s g9) nL ws pc lv [.int x] := by
  intro H locs ls hP hK hl
  exact W.widen hc hs (W.zret X.1.1 X.1.2.1 Y.1 (zb_nar hx) (fun t ht hW => ⟨⟨x, (), rfl, h, by rw [ht]; exact hP, by rw [ht]; exact Nat.le_trans (Nat.add_le_add_left hg _) hK.2⟩, va_S.F hK.1 ht⟩) hK.1.2.2 d Y.2)
theorem ze_gl {g g9 mc ms : Nat} {x r : Int64} (hc : cells ≤ mc) (hs : slots ≤ ms) (hg : g ≤ g9) (X : zX p m c cc nL s args own D C A (zk_Kn A s g9)) (Y : zY l meth (some .long)) (h : x = r) (d : decode cc pc = .ok (.lreturn, 1)) : zJ p l e R s m args below meth c cells slots (MQ below (zQl D ws g r s.heap.size A) args s mc ms A) D (zk_Kn A s g9) nL ws pc lv [.long x] := by
  intro H locs ls hP hK hl
  exact W.widen hc hs (W.lret X.1.1 X.1.2.1 Y.1 (fun t ht hW => ⟨⟨x, (), rfl, h, by rw [ht]; exact hP, by rw [ht]; exact Nat.le_trans (Nat.add_le_add_left hg _) hK.2⟩, va_S.F hK.1 ht⟩) hK.1.2.2 d Y.2)
theorem zr_L {mc ms : Nat} {Qc : Nat → (Nat → Prop) → Array Value → State → Outcome → State → Prop} (X : zX p m c cc nL s args own D C A K) (hM : zk_L l (.code y bytes maxL ret) y rm mc ms As wc D C Qc) (hw : zcS own index y) (hN : zcN y bytes maxL ret n) (hR : zcR R rm maxL mc ms cells slots) (hD : va_D A wc) (hA : ∀ q, s.heap.size ≤ q → A q) (hn : As.length = n) (hr : (rest.map fun v => v.category).sum ≤ 8) (d : decode cc pc = .ok (.invokestatic index, 3)) : ∀ (H : Heap) (locs : List Loc) (ls : Array Slot), va_P D vwCl wc H → K H locs → lv_has ls nL lv → va_Run p l e R s m args below meth c H locs cells slots mc ms (F0 m pc ls (As.reverse ++ rest)) rest (Qc H.size (va_A wc H.size) As.toArray) (va_A wc H.size) :=
  fun H locs ls hP hK hl => va_runS X.1 (hM H.size) ⟨zc_cB X hN hR hw.1, X.1.2.2.2.2 _ hw.2⟩ ⟨zk_Bm.blind, fun U hU hW => ⟨rfl, zc_Bm X hP hK hD hA hU hW⟩⟩ rfl hn hl.1 rfl (lv_room hr) d hR.2.2.2
theorem zr_Lw {hh : List (Nat × Nat × Nat × Nat)} {mc ms : Nat} {Qc : Nat → (Nat → Prop) → Array Value → State → Outcome → State → Prop} (X : zX p m c cc nL s args own D C A K) (hM : zk_L l (.codeWith y bytes maxL ret hh) y rm mc ms As wc D C Qc) (hl0 : Cond.methodLink own index y ∈ zG) (hs : Cond.static y ∈ zG) (hi : Cond.initialized y.cls ∈ zG) (hc : Cond.codeWith y bytes maxL ret hh ∈ zG)
    (hd : y.cls ≠ "java/lang/invoke/MethodHandle" ∧ y.cls ≠ "java/lang/invoke/VarHandle" ∧ (parseMethodDescriptor y.desc).map (fun d => d.parameters.length) = some n) (hR : zcR R rm maxL mc ms cells slots) (hD : va_D A wc) (hA : ∀ q, s.heap.size ≤ q → A q) (hn : As.length = n) (hr : (rest.map fun v => v.category).sum ≤ 8) (d : decode cc pc = .ok (.invokestatic index, 3)) : ∀ (H : Heap) (locs : List Loc) (ls : Array Slot), va_P D vwCl wc H → K H locs → lv_has ls nL lv → va_Run p l e R s m args below meth c H locs cells slots mc ms (F0 m pc ls (As.reverse ++ rest)) rest (Qc H.size (va_A wc H.size) As.toArray) (va_A wc H.size) :=
  fun H locs ls hP hK hl => vx_runSW X.1 (hM H.size) ⟨⟨hR.1, hR.2.1, hR.2.2.1.1, hR.2.2.1.2, pay_in X.1.2.2.2.2 (zG_cons hc), List.mem_cons_self⟩, X.1.2.2.2.2 _ hc, X.1.2.2.2.2 _ hi, ⟨hd.1, hd.2.1⟩, fun sig h => by
    have h2 := hd.2.2
    rw [h] at h2
    exact (Option.some.inj h2).symm, X.1.2.2.2.2 _ hl0, X.1.2.2.2.2 _ hs⟩ ⟨zk_Bm.blind, fun U hU hW => ⟨rfl, zc_Bm X hP hK hD hA hU hW⟩⟩ rfl hn hl.1 rfl (lv_room hr) d hR.2.2.2
theorem zc_gi (np : Nat) {g g1 : Nat} {r : Int32} {st0 : List Value} {a9 : Array Value} {mc ms : Nat} (c2 s2 g2 : Nat) (hr : ∀ (H : Heap) (locs : List Loc) (ls : Array Slot), va_P D vwCl wc H → zk_Kn A s g H locs → lv_has ls nL lv → va_Run p l e R s m args below meth c H locs cells slots mc ms (F0 m pc ls st0) rest (zQi D wc g1 r H.size (va_A wc H.size) a9) (va_A wc H.size)) (F : zFr D A ws wc) (hA : ∀ q, s.heap.size ≤ q → A q) (hc : cells + mc = c2) (hs : slots + ms = s2) (hg : g + g1 = g2) (hn : pc + 3 = np) (k : zJ p l e R s m args below meth c c2 s2 Q D (zk_Kn A s g2) nL ws np lv (.int r :: rest)) : zJ p l e R s m args below meth c cells slots Q D (zk_Kn A s g) nL ws pc lv st0 := by
  subst hn; subst hc; subst hs; subst hg
  exact fun H locs ls hP hK hl => va_calli (hr H locs ls (F.2.1 H hP) hK hl) hK.1 (fun q _ h => zc_F F.1 hA hK.1.1 q h) (zc_F F.1 hA hK.1.1) (fun r' u t H1 locs1 ht hvm hp hB hz hk hS => by
    subst hp
    exact k H1 locs1 ls (F.2.2 H H1 hP (ht ▸ hB.1) hk) ⟨hS, by have h1 := hB.2; rw [ht] at h1; have := hK.2; omega⟩ hl)
theorem zc_gl (np : Nat) {g g1 : Nat} {r : Int64} {st0 : List Value} {a9 : Array Value} {mc ms : Nat} (c2 s2 g2 : Nat) (hr : ∀ (H : Heap) (locs : List Loc) (ls : Array Slot), va_P D vwCl wc H → zk_Kn A s g H locs → lv_has ls nL lv → va_Run p l e R s m args below meth c H locs cells slots mc ms (F0 m pc ls st0) rest (zQl D wc g1 r H.size (va_A wc H.size) a9) (va_A wc H.size)) (F : zFr D A ws wc) (hA : ∀ q, s.heap.size ≤ q → A q) (hc : cells + mc = c2) (hs : slots + ms = s2) (hg : g + g1 = g2) (hn : pc + 3 = np) (k : zJ p l e R s m args below meth c c2 s2 Q D (zk_Kn A s g2) nL ws np lv (.long r :: rest)) : zJ p l e R s m args below meth c cells slots Q D (zk_Kn A s g) nL ws pc lv st0 := by
  subst hn; subst hc; subst hs; subst hg
  exact fun H locs ls hP hK hl => va_calll (hr H locs ls (F.2.1 H hP) hK hl) hK.1 (fun q _ h => zc_F F.1 hA hK.1.1 q h) (zc_F F.1 hA hK.1.1) (fun r' u t H1 locs1 ht hvm hp hB hz hk hS => by
    subst hp
    exact k H1 locs1 ls (F.2.2 H H1 hP (ht ▸ hB.1) hk) ⟨hS, by have h1 := hB.2; rw [ht] at h1; have := hK.2; omega⟩ hl)
/-- a method that reads the law's script -/
def zk_Mx (l : Launch) (y : MethodName) (cc : ByteArray) (maxL : Nat) (ret : Option FieldType) (rm : Room) (As : List Value) (D : va_G) (C : ClassId × ClassId) (b L : Nat) (xs : Nat → Int32) (Qc : Array Value → State → Outcome → State → Prop) : Prop :=
  Met l y (.code y cc maxL ret :: zG) rm (va_Pc As (fun U => zk_B D C [] (fun _ => False) U ∧ va_X b L xs U U.heap ∧ b < U.heap.size)) Qc 0 0 (fun _ => False)
theorem zk_Bx.blind {D : va_G} {C : ClassId × ClassId} {As : List Value} {b L : Nat} {xs : Nat → Int32} : FrameBlind (va_Pc As (fun U => zk_B D C [] (fun _ => False) U ∧ va_X b L xs U U.heap ∧ b < U.heap.size)) := fun a U g mk h => ⟨h.1, (zk_B.blind a U g mk ⟨h.1, h.2.1⟩).2, va_X.moved (u := U) (U := U.calling g mk a) (Vm.Alike.refl U.vm) h.2.2.1, h.2.2.2⟩
theorem zk_mx {L : Nat} {xs : Nat → Int32} {Qc : Array Value → State → Outcome → State → Prop}
    (hy : plainName y.cls = true) (hn : (lg_sl As).length ≤ maxL)
    (body : ∀ (p : Program) (e : Env) (s : State) (m : MethodId) (below : List Frame) (meth : Method) (c : Code), zX p m c cc maxL s As.toArray y.cls D C (fun _ => False) (zk_K0 s) → zY l meth ret → va_X b L xs s s.heap → b < s.heap.size →
      zJ p l e rm s m As.toArray below meth c 0 0 (MQ below Qc As.toArray s 0 0 (fun _ => False)) D (zk_K0 s) maxL [] 0 (lv_args 0 As) []) : zk_Mx l y cc maxL ret rm As D C b L xs Qc := by
  refine Met.ofW (cc := cc) (maxL := maxL) (ret := ret) hy rfl ?_
  intro p e s m args below meth c s₁ B hml hv
  obtain ⟨rfl, ⟨hP, hK, hV⟩, hX, hb⟩ := hv
  have hts := atoms_spec B.pre
  refine zk_into hn hP ⟨rfl, rfl⟩ (body p e s m below meth c ⟨⟨B.exec, B.bytes, hml, findClass_of_methodNamed B.named, fun w hw => hts w (List.mem_cons_of_mem _ hw)⟩, hK, hV, fun H locs h => ?_⟩ ⟨B.returns, B.notSynchronized⟩ hX hb)
  obtain ⟨rfl, rfl⟩ := h
  exact va_S.rf
theorem zr_Sx {L : Nat} {xs : Nat → Int32} {Qc : Array Value → State → Outcome → State → Prop} (X : zX p m c cc nL s args own D C A K) (hM : zk_Mx l y bytes maxL ret rm As D C b L xs Qc) (hw : zcS own index y) (hN : zcN y bytes maxL ret n) (hR : zcR R rm maxL 0 0 cells slots) (hX : va_X b L xs s s.heap) (hbl : b < s.heap.size) (hbA : ¬ A b) (hn : As.length = n) (hr : (rest.map fun v => v.category).sum ≤ 8) (d : decode cc pc = .ok (.invokestatic index, 3)) : ∀ (H : Heap) (locs : List Loc) (ls : Array Slot), va_P D vwCl ws H → K H locs → lv_has ls nL lv → CallRun p l e R s m args below meth c H locs cells slots 0 0 (F0 m pc ls (As.reverse ++ rest)) rest (Qc As.toArray) (fun _ => False) :=
  fun H locs ls hP hK hl => va_Run.run (va_runS X.1 hM ⟨zc_cB X hN hR hw.1, X.1.2.2.2.2 _ hw.2⟩ ⟨zk_Bx.blind, fun U hU hW => ⟨rfl, zc_B X (zs0 H hP) hK (fun _ h => h.elim) hU hW, by rw [hU]; exact (va_X.moved hW.alike hX).kept ((X.2.2.2 H locs hK).2.1 b hbl hbA), by rw [hU]; exact Nat.lt_of_lt_of_le hbl (X.2.2.2 H locs hK).1⟩⟩ rfl hn hl.1 rfl (lv_room hr) d hR.2.2.2)
theorem zj_slen (np : Nat) (X : zX p m c cc nL s args own D C A K) {L : Nat} {xs : Nat → Int32} (hX : va_X b L xs s s.heap) (hbl : b < s.heap.size) (hbA : ¬ A b) (d : decode cc pc = .ok (.arraylength, 1)) (hn : pc + 1 = np) (k : zJ p l e R s m args below meth c cells slots Q D K nL ws np lv (.int (Int32.ofNat L) :: rest)) : zJ p l e R s m args below meth c cells slots Q D K nL ws pc lv (.ref b :: rest) := by
  subst hn; exact fun H locs ls hP hK hl => va_slen X.1.1 X.1.2.1 hX hbl hbA (X.2.2.2 H locs hK) d (k H locs ls hP hK hl)
theorem zj_sld (np : Nat) (X : zX p m c cc nL s args own D C A K) {L : Nat} {xs : Nat → Int32} (hX : va_X b L xs s s.heap) (hbl : b < s.heap.size) (hbA : ¬ A b) {i : Int32} (hi : vp_in i L) (d : decode cc pc = .ok (.iaload, 1)) (hn : pc + 1 = np) (k : zJ p l e R s m args below meth c cells slots Q D K nL ws np lv (.int (xs i.toNatClampNeg) :: rest)) : zJ p l e R s m args below meth c cells slots Q D K nL ws pc lv (.int i :: .ref b :: rest) := by
  subst hn; exact fun H locs ls hP hK hl => va_sld X.1.1 X.1.2.1 hX hbl hbA (X.2.2.2 H locs hK) hi d (k H locs ls hP hK hl)
end ZL
