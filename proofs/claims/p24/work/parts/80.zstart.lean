/-! ===== ours: a start that meets the premises, with a script of 120 zeros: the witness's own state with another script ===== -/
def z_about : State := start1.aboutOf (List.replicate 120 (Value.int 0)).toArray
set_option maxRecDepth 100000 in
theorem z_w : (Cond.code x code maxLocals ret :: tables_1).all (fun c => c.onTables || c.before start1.args0 z_about) = true := by decide +kernel
theorem z_words : ∀ c ∈ (Cond.code x code maxLocals ret :: tables_1), c.before start1.args0 z_about = true := by
  intro c hc
  have h := List.all_eq_true.mp z_w c hc
  cases ho : c.onTables with
  | true => exact va_tabs (u := start1.about) ho rfl (start1.words c hc)
  | false =>
    rw [ho, Bool.false_or] at h
    exact h
set_option maxRecDepth 100000 in
theorem z_applies (r : Room) (h1 : z_about.frames.length + r.frames ≤ launch0.maxFrames) (h2 : z_about.heap.size + r.cells ≤ launch0.maxCells) (h3 : z_about.slotsUsed + r.slots ≤ launch0.maxSlots) (h4 : z_about.localsInUse + r.locals ≤ launch0.maxStackSlots - stackMargin) (h5 : z_about.localsInUse + r.locals + stackMargin ≤ realStackBytes / 8) :
    (headSpec (Cond.code x code maxLocals ret :: tables_1) r).applies x start1.e0.platform z_about = true :=
  (Spec.applies_iff (m := ⟨0, 0⟩) (args := start1.args0) (below := Lib.HandBits.below0) rfl).mpr ⟨rfl, rfl, rfl, by decide +kernel, by decide +kernel, by decide +kernel, launch0.hasRoom_least _ r h1 h2 h3 h4 (by decide +kernel) (by decide +kernel) h5, atoms_intro z_words⟩
set_option maxRecDepth 100000 in
theorem z_atStart : AtStart classFile x code maxLocals ret World_1 tables_1 room_1 Calls_1 rest_1 Pre_1 launch0 start1.p0 start1.e0 z_about ⟨0, 0⟩ start1.args0 Lib.HandBits.below0 :=
  ⟨lists_1, trivial, launch0.admits_env _ _ _, launch0.least_env, fairChoices_fair.cas, fairChoices_fair.clock, rfl, by decide +kernel, by decide +kernel,
    z_applies room_1 (by decide +kernel) (by decide +kernel) (by decide +kernel) (by decide +kernel) (by decide +kernel),
    trivial, (show rest_1_c.before start1.args0 z_about = true by decide +kernel), (show (Cond.and given_1 narrow_1).before start1.args0 z_about = true by decide +kernel)⟩
set_option maxRecDepth 100000 in
theorem z_P : zP 0 (List.replicate 120 0) start1.args0 z_about := by
  have harr : (Cond.arrayOf (.arg 0) .int).before start1.args0 z_about = true := by decide +kernel
  have hlen : (Cond.isInt (.length (.arg 0))).before start1.args0 z_about = true := by decide +kernel
  have hall : (Cond.all (.arg 0) (.isInt (.elem (.arg 0) (.index 0)))).before start1.args0 z_about = true := by decide +kernel
  obtain ⟨b, xs, hb, cell, h1, h2, h3, h4⟩ := State.ints_of_pre rfl harr hlen hall
  have hb : start1.args0[0]? = some (Value.ref b) := hb
  have hb0 : b = 0 := by
    have h := hb.symm.trans (show start1.args0[0]? = some (Value.ref 0) from rfl)
    cases h
    rfl
  subst hb0
  have e : z_about.arrayAt? 0 = some { cls := 16, slots := (List.replicate 120 (Value.int 0)).toArray, vm := .none } := rfl
  have ec := Option.some.inj (h1.symm.trans e)
  subst ec
  exact ⟨rfl, ⟨_, e, by decide +kernel, h3, by decide +kernel⟩, by decide +kernel, by decide +kernel, by decide +kernel, (show (Cond.and given_1 narrow_1).before start1.args0 z_about = true by decide +kernel)⟩
/-- THE STATEMENT OF p24 IS FALSE -/
theorem p24_refuted : ¬ (Claimed_1_1 ∧ Claimed_1_2) :=
  p24_false (l := launch0) rfl z_atStart (z_applies room_z (by decide +kernel) (by decide +kernel) (by decide +kernel) (by decide +kernel) (by decide +kernel)) z_P
