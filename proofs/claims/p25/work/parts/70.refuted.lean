/-! p25 refuted: from a start that the Statement allows (the printed witness's own, but for the script: sixty-one threes) the law makes more than the 206 cells that the frame gives it -/
def zw_P (b : Addr) (args : Array Value) (s : State) : Prop := args = #[.ref b] ∧ va_X b 61 (fun _ => 3) s s.heap ∧ b < s.heap.size ∧ (Jvm.Cond.and given_1 narrow_1).before args s = true
set_option maxHeartbeats 4000000 in
theorem zw_walk (l : Launch) (hflags : l.flags = flags0) (b : Addr) : MetFree l x (headSpec (Jvm.Cond.code x code maxLocals ret :: tables_1) zbig) (zw_P b) (fun _ _ _ _ _ => True) (fun _ s _ t => s.heap.size + 207 ≤ t.heap.size) := by
  refine MetFree.of_bodyS (code := code) (maxLocals := maxLocals) (ret := ret) (by decide) ?_ ?_
  · intro args s m h hn
    obtain ⟨meth, c, h1, h2, h3, h4, h5, h6, -, -⟩ := Cond.code_spec hn (atoms_spec (ws := Jvm.Cond.code x code maxLocals ret :: tables_1) h _ List.mem_cons_self)
    exact ⟨meth, c, h1, h2, h3, h4, h5, h6⟩
  · intro p e s m args below meth c s₁ B hml0 hP _
    obtain ⟨rfl, hX, hbl, hgv⟩ := hP
    have hown : s.vm.findClass R_law = some m.cls := findClass_of_methodNamed B.named
    have hts0 : ∀ c ∈ (Jvm.Cond.code x code maxLocals ret :: tables_1), c.before #[Value.ref b] s = true := atoms_spec (ws := Jvm.Cond.code x code maxLocals ret :: tables_1) B.pre
    have hts : ∀ w ∈ lw_tbl, w.before #[Value.ref b] s = true := k2_hts_sels lw_privs (fun w hw => hts0 w (List.mem_cons_of_mem _ hw)) lw_privs_ok
    have hml : c.maxLocals = 10 := B.maxLocals_eq (hts0 _ List.mem_cons_self)
    have X₀ : Stand p l e zbig s m #[Value.ref b] below meth c s₁ [] 0 0 := Stand.of_body B
    have hh0 : s₁.heap = s.heap := by rw [B.state]; rfl
    have K : W p l e zbig s m #[Value.ref b] below meth c s₁.heap [] 0 0 (MQ below (fun _ _ _ t => s.heap.size + 207 ≤ t.heap.size) #[Value.ref b] s 25000 150000 (fun _ => True)) (entryFrame m ([Value.ref b] : List Value).toArray 10) := by
      rw [hh0]
      exact zw_start l hflags (fun _ _ => rfl) ⟨B.exec, B.bytes, B.returns, hml, hown, hts, hX, hbl, B.notSynchronized, hgv⟩
    obtain ⟨t, a1, o, b1, b2, b3, -⟩ := K s₁ rfl X₀
    exact ⟨t, o, a1, b1, b2, b3⟩
/-- the start: the witness's state with another script -/
def zw_about : State := start1.aboutOf (List.replicate 61 (Value.int 3)).toArray
set_option maxRecDepth 100000 in
theorem zw_tab : ((Jvm.Cond.code x code maxLocals ret :: tables_1).filter (fun c => !c.onTables)).all (fun c => c.before start1.args0 zw_about) = true := by decide +kernel
theorem zw_words : ∀ c ∈ (Jvm.Cond.code x code maxLocals ret :: tables_1), c.before start1.args0 zw_about = true := fun c hc => by
  by_cases h : c.onTables = true
  · exact va_tabs (u := start1.about) h rfl (start1.words c hc)
  · exact List.all_eq_true.mp zw_tab c (List.mem_filter.mpr ⟨hc, by rw [Bool.not_eq_true] at h; rw [h]; rfl⟩)
set_option maxRecDepth 100000 in
theorem zw_given : (Jvm.Cond.and given_1 narrow_1).before start1.args0 zw_about = true := by decide +kernel
set_option maxRecDepth 100000 in
theorem zw_rest : rest_1_c.before start1.args0 zw_about = true := by decide +kernel
theorem zw_fits : argsFit zw_about.vm ⟨0, 0⟩ start1.args0 = true ∧ heapFits zw_about = true := ⟨by decide +kernel, by decide +kernel⟩
set_option maxRecDepth 100000 in
theorem zw_app (r : Room) (h1 : zw_about.frames.length + r.frames ≤ launch0.maxFrames) (hr : zw_about.hasRoom start1.e0.platform r = true) : (headSpec (Jvm.Cond.code x code maxLocals ret :: tables_1) r).applies x start1.e0.platform zw_about = true :=
  (Spec.applies_iff rfl).mpr ⟨rfl, rfl, rfl, by decide +kernel, by decide +kernel, by decide +kernel, hr, atoms_intro zw_words⟩
theorem zw_X : va_X 0 61 (fun _ => 3) zw_about zw_about.heap := ⟨{ cls := 16, slots := (List.replicate 61 (Value.int 3)).toArray, vm := .none }, rfl, ⟨fun k h => (by cases h), _, rfl, _, rfl⟩, fun h => (by cases h), rfl, fun j hj => by
  show (List.replicate 61 (Value.int 3)).toArray[j]? = some (.int 3)
  rw [List.getElem?_toArray, List.getElem?_replicate, if_pos hj]⟩
/-- an invocation that has ended isn't under way -/
theorem zw_over {t : State} {below : List Frame} {o : Outcome} (h : Ended t below o) : ¬ Within t below := by
  rintro ⟨above, hf, hne, hth⟩
  cases o with
  | threw a =>
    have h1 : t.frames = .throwing a :: below := h
    rw [hf] at h1
    exact hth a (List.append_cancel_right (bs := below) (h1 : above ++ below = [.throwing a] ++ below))
  | returned v =>
    have hl : t.frames.length = below.length := by
      rcases below with _ | ⟨f, r⟩
      · rw [show t.frames = [] from h.2]
      · cases f
        all_goals first
          | (obtain ⟨c, i, len, -, -, h3⟩ := h; rw [h3]; rfl)
          | (have h3 := h; change t.frames = _ at h3; rw [h3]; rfl)
          | (have h3 := h.2; change t.frames = _ at h3; rw [h3])
    rw [hf, List.length_append] at hl
    exact hne (List.eq_nil_of_length_eq_zero (by omega))
