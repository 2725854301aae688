set_option maxRecDepth 100000 in
theorem zw_app1 : (headSpec (Jvm.Cond.code x code maxLocals ret :: tables_1) room_1).applies x start1.e0.platform zw_about = true := zw_app room_1 (by decide +kernel) (launch0.hasRoom_least _ room_1 (by decide +kernel) (by decide +kernel) (by decide +kernel) (by decide +kernel) (by decide +kernel) (by decide +kernel))
set_option maxRecDepth 100000 in
theorem zw_app2 : (headSpec (Jvm.Cond.code x code maxLocals ret :: tables_1) zbig).applies x start1.e0.platform zw_about = true := zw_app zbig (by decide +kernel) (launch0.hasRoom_least _ zbig (by decide +kernel) (by decide +kernel) (by decide +kernel) (by decide +kernel) (by decide +kernel) (by decide +kernel))
/-- whatever else a limb says: with the Statement's frame (206 cells) it is false at this start -/
theorem zw_false {P : Tables → Env → Array Value → State → Outcome → State → Prop}
    (h : ArmFor flags0 classFile x code maxLocals ret World_1 tables_1 room_1 Calls_1 rest_1 Pre_1
      (fun tb e a s o t => P tb e a s o t ∧ Framed s o t (fieldLocs frame_1_writes a s ++ arrayLocs frame_1_arrays a s ++ staticLocs frame_1_statics s) 206 1632)) : False := by
  have hadm : launch0.admits start1.e0 := launch0.admits_env _ _ _
  obtain ⟨n1, o1, w1, r1, e1, -, -, -, hsame⟩ := h launch0 rfl lists_1 trivial start1.p0 start1.e0 hadm fairChoices_fair.cas fairChoices_fair.clock zw_about ⟨0, 0⟩ start1.args0 Lib.HandBits.below0 rfl zw_fits.1 zw_fits.2 zw_app1 ⟨trivial, zw_rest, zw_given⟩
  obtain ⟨n2, o2, w2, r2, e2, hg⟩ := zw_walk launch0 rfl 0 start1.p0 start1.e0 hadm fairChoices_fair.cas fairChoices_fair.clock zw_about ⟨0, 0⟩ start1.args0 Lib.HandBits.below0 rfl ((Spec.applies_iff_loose rfl).mp zw_app2).1 ⟨rfl, zw_X, by decide +kernel, zw_given⟩ trivial
  obtain ⟨-, -, hsz, -⟩ := hsame
  have hsz : (stepsAlone start1.p0.tables start1.e0 n1 zw_about).heap.size ≤ zw_about.heap.size + 206 := hsz
  rcases Nat.lt_trichotomy n1 n2 with hl | rfl | hl
  · exact zw_over e1 (w2 n1 hl)
  · omega
  · exact zw_over e2 (w1 n2 hl)
theorem p25_refuted_1 : ¬ Claimed_1_1 := fun h => zw_false h
theorem p25_refuted_2 : ¬ Claimed_1_2 := fun h => zw_false h
theorem p25_refuted : ¬ (Claimed_1_1 ∧ Claimed_1_2) := fun h => p25_refuted_1 h.1
