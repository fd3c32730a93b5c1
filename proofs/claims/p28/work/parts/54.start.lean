section GSTART
/-! WHERE THE STATEMENT FAILS: over the script of a hundred and one 136s the law's run, which is the class's as the statement describes it, makes more new cells than the statement's room allows (190). The law answers true there; only the room is too small: 220 exceptions are thrown and caught, a cell each. -/
/-- the start: the witness' own, with a hundred and one 136s for its script -/
def f9_s : State := start1.aboutOf (Array.replicate 101 (Value.int 136))
set_option maxRecDepth 16384 in
theorem f9_tbl : tables_1.all (fun w => w.onTables || w.before start1.args0 f9_s) = true := by decide +kernel
theorem f9_words : ∀ w ∈ tables_1, w.before start1.args0 f9_s = true := by
  intro w hw
  have h := start1.words w (List.mem_cons_of_mem _ hw)
  have hb := List.all_eq_true.mp f9_tbl w hw
  rcases Bool.or_eq_true _ _ ▸ hb with hb | hb
  · exact va_tabs hb (show start1.about.vm = f9_s.vm from rfl) h
  · exact hb

set_option maxRecDepth 16384 in
theorem f9_code : (Cond.code x code maxLocals ret).before start1.args0 f9_s = true := va_tabs (u := start1.about) (U := f9_s) (A := start1.args0) (by decide +kernel) (show start1.about.vm = f9_s.vm from rfl) (start1.words _ List.mem_cons_self)
theorem f9_all : ∀ w ∈ (Cond.code x code maxLocals ret :: tables_1), w.before start1.args0 f9_s = true := fun w hw => (List.mem_cons.mp hw).elim (fun h => h ▸ f9_code) (fun h => f9_words w h)
set_option maxRecDepth 16384 in
theorem f9_rest : rest_1_c.before start1.args0 f9_s = true := by decide +kernel
set_option maxRecDepth 16384 in
theorem f9_pre : (Jvm.Cond.and given_1 narrow_1).before start1.args0 f9_s = true := by decide +kernel
set_option maxRecDepth 16384 in
theorem f9_app1 : (headSpec (Cond.code x code maxLocals ret :: tables_1) room_1).applies x start1.e0.platform f9_s = true :=
  (Spec.applies_iff (m := ⟨0, 0⟩) (args := start1.args0) (below := Lib.HandBits.below0) rfl).mpr ⟨rfl, rfl, rfl, by decide +kernel, by decide +kernel, by decide +kernel, launch0.hasRoom_least _ room_1 (by decide +kernel) (by decide +kernel) (by decide +kernel) (by decide +kernel) (by decide +kernel) (by decide +kernel), atoms_intro f9_all⟩
set_option maxRecDepth 16384 in
theorem f9_app9 : (headSpec (Cond.code x code maxLocals ret :: tables_1) R9).applies x start1.e0.platform f9_s = true :=
  (Spec.applies_iff (m := ⟨0, 0⟩) (args := start1.args0) (below := Lib.HandBits.below0) rfl).mpr ⟨rfl, rfl, rfl, by decide +kernel, by decide +kernel, by decide +kernel, launch0.hasRoom_least _ R9 (by decide +kernel) (by decide +kernel) (by decide +kernel) (by decide +kernel) (by decide +kernel) (by decide +kernel), atoms_intro f9_all⟩
theorem f9_script : va_X 0 101 (fun _ => 136) f9_s f9_s.heap := by
  refine ⟨{ cls := 22, slots := Array.replicate 101 (Value.int 136), vm := .none }, rfl, ?_, by decide, by simp, fun j hj => by simp [hj]⟩
  have h0 : (Cond.arrayOf (.arg 0) .int).before start1.args0 f9_s = true := flat_of_before _ f9_pre _ (by decide +kernel)
  have h1 : (Cond.isInt (.length (.arg 0))).before start1.args0 f9_s = true := flat_of_before _ f9_rest _ (by decide +kernel)
  have h2 : (Cond.all (.arg 0) (.isInt (.elem (.arg 0) (.index 0)))).before start1.args0 f9_s = true := flat_of_before _ f9_rest _ (by decide +kernel)
  obtain ⟨b, xs, hb, cell, ha, -, hof, -⟩ := State.ints_of_pre rfl h0 h1 h2
  have e0 : b = 0 := by
    have : some (Value.ref 0) = some (Value.ref b) := hb
    cases this
    rfl
  subst e0
  obtain ⟨hcb, -⟩ := State.arrayAt?_spec ha
  have e1 : some ({ cls := 22, slots := Array.replicate 101 (Value.int 136), vm := .none } : Cell) = some cell := hcb
  cases e1
  exact hof
theorem f9_lf : launch0.stackTraces = false := by decide +kernel
end GSTART
