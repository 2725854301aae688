section ZC3
variable {p : Program} {l : Launch} {e : Env} {R : Room} {s : State} {m : MethodId} {args : Array Value} {below : List Frame} {meth : Method} {c : Code} {cells slots : Nat} {Q : State → Prop} {D : va_G} {C : ClassId × ClassId} {A : Nat → Prop} {K : Heap → List Loc → Prop} {nL : Nat} {ws wsub : va_W} {cc bytes : ByteArray} {own host : String} {lv : List (Nat × Value)} {rest As : List Value} {pc index n maxL b : Nat} {y : MethodName} {ret : Option FieldType} {rm : Room}
theorem zc_vt (np : Nat) {σ : Type} {Wd : σ → va_W} {v : Nat × σ} {st0 : List Value} {a9 : Array Value} {XE : String → Prop} {Qc : Array Value → State → Outcome → State → Prop} {mc ms : Nat} (hc : cells = 0) (hs : slots = 0) (X : zX p m c cc nL s args own D C A (zk_Km A s)) (Y : meth.locks = false)
    (hr : ∀ (H : Heap) (locs : List Loc) (ls : Array Slot), va_P D vwCl ws H → zk_Km A s H locs → lv_has ls nL lv → vx_Run p l e R s m args below meth c H locs cells slots 1 6 (F0 m pc ls st0) rest (va_Qv (fun u' => (0, u') = v) (fun u' t => va_P D vwCl (Wd u') t.heap) (va_A ws H.size) a9) (vx_X (fun _ : Unit => True) (fun E _ t => zXE v.1 E ∧ H.size < t.heap.size ∧ va_P D vwCl ws t.heap) (va_A ws H.size)) (va_A ws H.size))
    (hD : va_D A ws) (hA : ∀ q, s.heap.size ≤ q → A q) (hnot : ∀ x ∈ c.exceptionTable.toList, False) (hn : pc + 3 = np) (k : v.1 = 0 → zJ p l e R s m args below meth c 1 6 (vx_MQ below Qc (vx_X (fun _ : Unit => True) (fun E _ t => XE E ∧ s.heap.size < t.heap.size ∧ va_P D vwCl ws t.heap) A) args s mc ms A) D (zk_Km A s) nL (Wd v.2) np lv rest) (kx : v.1 ≠ 0 → XE (zxn v.1)) (hm : 1 ≤ mc ∧ 6 ≤ ms := by decide) : zJ p l e R s m args below meth c cells slots (vx_MQ below Qc (vx_X (fun _ : Unit => True) (fun E _ t => XE E ∧ s.heap.size < t.heap.size ∧ va_P D vwCl ws t.heap) A) args s mc ms A) D (zk_Km A s) nL ws pc lv st0 := by
  subst hn; subst hc; subst hs
  intro H locs ls hP hK hl
  refine vx_callv (hr H locs ls hP hK hl) hK (fun q _ h => zc_F hD hA hK.1 q h) (zc_F hD hA hK.1) (fun q _ h => zc_F hD hA hK.1 q h) (fun E ce q9 u t H1 locs1 ht hvm _ hB hz hk hS hce hcv hcl => ?_) (fun u t H1 locs1 ht hvm hp hB hz hk hS => ?_)
  · refine vx_out (fun x hx => (hnot x hx).elim) Y hce hcv hcl (fun t2 ht2 hvm2 => ⟨(), trivial, ⟨hB.1.2 ▸ kx hB.1.1, (by rw [ht2, ← ht]; exact Nat.lt_of_le_of_lt hK.1 hB.2.1), ?_⟩, ?_⟩) hS.2.2 hm.1 hm.2
    · show va_P D vwCl ws t2.heap
      rw [ht2, ← ht]; exact hB.2.2
    · exact va_S.F hS ht2
  · subst hp
    exact k rfl H1 locs1 ls (ht ▸ hB) hS hl
def zk_Mu (l : Launch) (y : MethodName) (cc : ByteArray) (maxL : Nat) (ret : Option FieldType) (rm : Room) (As : List Value) (ws : va_W) (D : va_G) (C : ClassId × ClassId) (Qc : (Nat → Prop) → Array Value → State → Outcome → State → Prop) (X : String → Prop) : Prop :=
  ∀ sz : Nat, vx_Met l y (.code y cc maxL ret :: zG) rm (va_Pc As (zk_Bm D C ws sz)) (Qc (va_A ws sz)) (vx_X (fun _ : Unit => True) (fun E _ t => X E ∧ sz < t.heap.size ∧ va_P D vwCl ws t.heap) (va_A ws sz)) 2 12 (va_A ws sz)
theorem zk_mu {l : Launch} {y : MethodName} {cc : ByteArray} {maxL : Nat} {ret : Option FieldType} {rm : Room} {As : List Value} {ws : va_W} {D : va_G} {C : ClassId × ClassId} {Qc : (Nat → Prop) → Array Value → State → Outcome → State → Prop} {X : String → Prop}
    (hy : plainName y.cls = true) (hn : (lg_sl As).length ≤ maxL)
    (body : ∀ (p : Program) (e : Env) (s : State) (m : MethodId) (below : List Frame) (meth : Method) (c : Code) (A : Nat → Prop), zX p m c cc maxL s As.toArray y.cls D C A (zk_Km A s) → zY l meth ret → (∀ x ∈ c.exceptionTable.toList, False) → va_D A ws → (∀ q, s.heap.size ≤ q → A q) →
      zJ p l e rm s m As.toArray below meth c 0 0 (vx_MQ below (Qc A) (vx_X (fun _ : Unit => True) (fun E _ t => X E ∧ s.heap.size < t.heap.size ∧ va_P D vwCl ws t.heap) A) As.toArray s 2 12 A) D (zk_Km A s) maxL ws 0 (lv_args 0 As) []) : zk_Mu l y cc maxL ret rm As ws D C Qc X := by
  intro sz
  refine vx_ofW (cc := cc) (maxL := maxL) (ret := ret) hy rfl ?_
  intro p e s m args below meth c s₁ B hml hnot hv
  obtain ⟨rfl, rfl, ⟨hP, hK, hV⟩, hD0⟩ := hv
  have hts := atoms_spec B.pre
  exact zk_into hn hP va_S.rf (body p e s m below meth c (va_A ws s.heap.size) ⟨⟨B.exec, B.bytes, hml, findClass_of_methodNamed B.named, fun w hw => hts w (List.mem_cons_of_mem _ hw)⟩, hK, hV, fun H locs h => h⟩ ⟨B.returns, B.notSynchronized⟩ hnot hD0.self (fun q h => Or.inr h))
theorem ze_iu {σ : Type} {Wd : σ → va_W} {u : σ} {XC : String → State → State → Prop} {x : Int32} {v : Nat × Int32 × σ} (hc : cells ≤ 2) (hs : slots ≤ 12) (X : zX p m c cc nL s args own D C A (zk_Km A s)) (Y : zY l meth (some .int)) (h : (0, x, u) = v) (d : decode cc pc = .ok (.ireturn, 1)) : zJ p l e R s m args below meth c cells slots (vx_MQ below (va_Qi (fun r u' => (0, r, u') = v) (fun u' t => va_P D vwCl (Wd u') t.heap) A) XC args s 2 12 A) D (zk_Km A s) nL (Wd u) pc lv [.int x] := by
  intro H locs ls hP hK hl
  exact W.widen hc hs (vx_ret (W.iret X.1.1 X.1.2.1 Y.1 (fun t ht hW => ⟨⟨x, u, rfl, h, by show va_P D vwCl (Wd u) t.heap; rw [ht]; exact hP⟩, va_S.F hK ht⟩) hK.2.2 d Y.2))
theorem zx_throwu {E text : String} {ik is ic : Nat} {XE : String → Prop} {Qc : Array Value → State → Outcome → State → Prop} (hc : cells ≤ 1) (hs : slots ≤ 6) (X : zX p m c cc nL s args RX4 D C A (zk_Km A s)) (Y : meth.locks = false) (hl : l.stackTraces = false) (hE : Bundle.fit E = true) (hk : Cond.classLink RX4 ik E ∈ zG) (hi : Cond.initialized E ∈ zG) (hstr : (is, text) ∈ zk_str)
    (hat : ∀ w ∈ vx_atS RX4 ic E ["java/lang/RuntimeException", "java/lang/Exception"], w.before args s = true) (hgood : (Cond.classLink RX4 ik E :: Cond.initialized E :: vx_atS RX4 ic E ["java/lang/RuntimeException", "java/lang/Exception"]).all vx_ot = true)
    (hnot : ∀ x ∈ c.exceptionTable.toList, False) (hx : XE E) (hR : 5 < R.frames ∧ (rest.map fun v => v.category).sum + 82 ≤ R.locals ∧ 2 ≤ R.cells ∧ 12 ≤ R.slots)
    (d0 : decode cc pc = .ok (.new ik, 3)) (d3 : decode cc (pc + 3) = .ok (.dup, 1)) (d4 : decode cc (pc + 4) = .ok (.ldc is, 2)) (d6 : decode cc (pc + 6) = .ok (.invokespecial ic, 3)) (d9 : decode cc (pc + 9) = .ok (.athrow, 1)) (hP0 : ∀ (H : Heap), va_P D vwCl ws H → va_P D vwCl wsub H) :
    zJ p l e R s m args below meth c cells slots (vx_MQ below Qc (vx_X (fun _ : Unit => True) (fun E _ t => XE E ∧ s.heap.size < t.heap.size ∧ va_P D vwCl wsub t.heap) A) args s 2 12 A) D (zk_Km A s) nL ws pc lv rest := by
  intro H locs ls hP hK hl9
  obtain ⟨sa, hsa⟩ := X.2.2.1.1.2.2 _ hstr
  refine zx_throwS (sa := sa) (A := A) (text := text) (names := ["java/lang/RuntimeException", "java/lang/Exception"]) X.1.1 X.1.2.1 hl X.1.2.2.2.1 hE (by decide +kernel) (X.1.2.2.2.2 _ hk) (X.1.2.2.2.2 _ hi) hsa hat (List.all_eq_true.mp hgood) X.2.2.1.2.2.2.1 X.2.2.1.2.2.2.2 hK (hl9.1.trans X.1.2.2.1.symm) d0 d3 d4 d6 d9 (fun x hx9 => (hnot x hx9).elim) hR.1 hR.2.1 (by omega) (by omega) Y (fun t hvm hz hq => ⟨(), trivial, ⟨hx, Nat.lt_of_le_of_lt hK.1 hz, ?_⟩, ?_⟩) hK.2.2 (by omega) (by omega)
  · have hP1 := hP0 H hP
    exact hP1.kept (fun k q hk9 => hq _ ((hP1 k q hk9).lt))
  · exact ⟨Nat.le_trans hK.1 (Nat.le_of_lt hz), fun q h1 h2 => (hq q (Nat.lt_of_lt_of_le h1 hK.1)).trans (hK.2.1 q h1 h2)⟩
/-- a method that reads a static row of eight ints, given as its argument -/
def zk_Mq (l : Launch) (y : MethodName) (cc : ByteArray) (maxL : Nat) (ret : Option FieldType) (rm : Room) (As : List Value) (ws : va_W) (D : va_G) (C : ClassId × ClassId) (t : Nat) (f : Nat → Int32) (Qc : Array Value → State → Outcome → State → Prop) : Prop :=
  Met l y (.code y cc maxL ret :: zG) rm (va_Pc As (fun U => zk_B D C ws (fun _ => False) U ∧ va_T .int t 8 (fun j => .int (f j)) (fun _ => False) U U.heap)) Qc 0 0 (fun _ => False)
theorem zk_Bq.blind {D : va_G} {C : ClassId × ClassId} {ws : va_W} {A : Nat → Prop} {As : List Value} {t : Nat} {f : Nat → Int32} : FrameBlind (va_Pc As (fun U => zk_B D C ws A U ∧ va_T .int t 8 (fun j => .int (f j)) A U U.heap)) := fun a U g mk h => ⟨h.1, (zk_B.blind a U g mk ⟨h.1, h.2.1⟩).2, va_T.moved (u := U) (U := U.calling g mk a) (Vm.Alike.refl U.vm) h.2.2⟩
theorem zk_mq {l : Launch} {y : MethodName} {cc : ByteArray} {maxL : Nat} {ret : Option FieldType} {rm : Room} {As : List Value} {ws : va_W} {D : va_G} {C : ClassId × ClassId} {t : Nat} {f : Nat → Int32} {Qc : Array Value → State → Outcome → State → Prop}
    (hy : plainName y.cls = true) (hn : (lg_sl As).length ≤ maxL)
    (body : ∀ (p : Program) (e : Env) (s : State) (m : MethodId) (below : List Frame) (meth : Method) (c : Code), zX p m c cc maxL s As.toArray y.cls D C (fun _ => False) (zk_K0 s) → zY l meth ret → va_T .int t 8 (fun j => .int (f j)) (fun _ => False) s s.heap →
      zJ p l e rm s m As.toArray below meth c 0 0 (MQ below Qc As.toArray s 0 0 (fun _ => False)) D (zk_K0 s) maxL ws 0 (lv_args 0 As) []) : zk_Mq l y cc maxL ret rm As ws D C t f Qc := by
  refine Met.ofW (cc := cc) (maxL := maxL) (ret := ret) hy rfl ?_
  intro p e s m args below meth c s₁ B hml hv
  obtain ⟨rfl, ⟨hP, hK, hV⟩, hT⟩ := hv
  have hts := atoms_spec B.pre
  refine zk_into hn hP ⟨rfl, rfl⟩ (body p e s m below meth c ⟨⟨B.exec, B.bytes, hml, findClass_of_methodNamed B.named, fun w hw => hts w (List.mem_cons_of_mem _ hw)⟩, hK, hV, fun H locs h => ?_⟩ ⟨B.returns, B.notSynchronized⟩ hT)
  obtain ⟨rfl, rfl⟩ := h
  exact va_S.rf
theorem zqi_F (np : Nat) {t : Nat} {f : Nat → Int32} (X : zX p m c cc nL s args own D C A K) (hT : va_T .int t 8 (fun j => .int (f j)) A s s.heap) {i : Int32} (hi : vp_in i 8) (d : decode cc pc = .ok (.iaload, 1)) (hn : pc + 1 = np) (k : zJ p l e R s m args below meth c cells slots Q D K nL ws np lv (.int (f i.toNatClampNeg) :: rest)) : zJ p l e R s m args below meth c cells slots Q D K nL ws pc lv (.int i :: .ref t :: rest) := by
  subst hn; exact fun H locs ls hP hK hl => va_ti X.1.1 X.1.2.1 hT (X.2.2.2 H locs hK) hi rfl d (k H locs ls hP hK hl)
theorem zqn_F (np : Nat) {t : Nat} {f : Nat → Int32} (X : zX p m c cc nL s args own D C A K) (hT : va_T .int t 8 (fun j => .int (f j)) A s s.heap) (d : decode cc pc = .ok (.arraylength, 1)) (hn : pc + 1 = np) (k : zJ p l e R s m args below meth c cells slots Q D K nL ws np lv (.int 8 :: rest)) : zJ p l e R s m args below meth c cells slots Q D K nL ws pc lv (.ref t :: rest) := by
  subst hn; exact fun H locs ls hP hK hl => va_tlen X.1.1 X.1.2.1 hT (X.2.2.2 H locs hK) rfl d (k H locs ls hP hK hl)
theorem zr_Sq {t : Nat} {f : Nat → Int32} {Qc : Array Value → State → Outcome → State → Prop} (X : zX p m c cc nL s args own D C A K) (hM : zk_Mq l y bytes maxL ret rm As wsub D C t f Qc) (hw : zcS own index y) (hN : zcN y bytes maxL ret n) (hR : zcR R rm maxL 0 0 cells slots) (hT : va_T .int t 8 (fun j => .int (f j)) A s s.heap) (hsub : ∀ H, va_P D vwCl ws H → va_P D vwCl wsub H) (hn : As.length = n) (hr : (rest.map fun v => v.category).sum ≤ 8) (d : decode cc pc = .ok (.invokestatic index, 3)) : ∀ (H : Heap) (locs : List Loc) (ls : Array Slot), va_P D vwCl ws H → K H locs → lv_has ls nL lv → CallRun p l e R s m args below meth c H locs cells slots 0 0 (F0 m pc ls (As.reverse ++ rest)) rest (Qc As.toArray) (fun _ => False) :=
  fun H locs ls hP hK hl => va_Run.run (va_runS X.1 hM ⟨zc_cB X hN hR hw.1, X.1.2.2.2.2 _ hw.2⟩ ⟨zk_Bq.blind, fun U hU hW => ⟨rfl, zc_B X (hsub H hP) hK (fun _ h => h.elim) hU hW, by rw [hU]; exact ((hT.moved hW.alike).kept (X.2.2.2 H locs hK).2.1).narrow (fun _ h => h.elim)⟩⟩ rfl hn hl.1 rfl (lv_room hr) d hR.2.2.2)
end ZC3
