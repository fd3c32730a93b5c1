section GFALSE
/-! THE STATEMENT IS FALSE: over the script of a hundred and one 136s the law's run, which is the class's as the statement describes it, makes more new cells than the statement's room allows (190). The law answers true there; only the room is too small: 220 exceptions are thrown and caught, a cell each. -/
/-- the first step of an invocation, and what follows it -/
theorem g_begin {l : Launch} {y : MethodName} {G : Spec} {bytes : ByteArray} {mL : Nat} {rt : Option FieldType} (hx : plainFor y = true)
    (his : ∀ args (s : State) m, G.pre.before args s = true → s.methodNamed? y = some m → ∃ meth c, s.vm.method? m = some meth ∧ meth.code = some c ∧ c.code = bytes ∧ c.maxLocals = mL ∧ meth.sig.returnType = rt ∧ meth.locks = false)
    (p : Program) (e : Env) (ha : l.admits e) (hc : FairCas e.choices) (hk : FairClock e.choices) (s : State) (m : MethodId) (args : Array Value) (below : List Frame)
    (hf : s.frames = Frame.invoking m args :: below) (happ : G.appliesLoose y e.platform s = true) (Q : State → Prop)
    (body : ∀ meth c s₁, BodyLoose p l y G bytes mL rt e s m args below meth c s₁ → c.maxLocals = mL → ∃ t, Steps p.tables e below (s₁.setTop (entryFrame m args mL)) t ∧ Q t) :
    ∃ t, Steps p.tables e below s t ∧ Q t := by
  obtain ⟨hrun, hable, halone, hname, hhears, hinit, hroom, hpre⟩ := (Spec.appliesLoose_iff hf).mp happ
  obtain ⟨meth, c, hmeth, hcode, hbytes, hlocals, hret, hlocks⟩ := his args s m hpre hname
  have hcur := State.cur_lt_of_frames hf
  have hf1 : (s.setFrames (.java (entryFrame m args mL) :: below)).frames = .java (entryFrame m args mL) :: below := State.frames_setFrames _ hcur
  have ht1 := State.topJava?_of_frames hf1
  have hplain : (s.setFrames (.java (entryFrame m args mL) :: below)).plainMethod m := State.plainMethod.of_named (s := s) hx hname hmeth
  have hAt : At (s.setFrames (.java (entryFrame m args mL) :: below)) m c below :=
    ⟨by rw [ht1]; rfl, ⟨[], by rw [hf1]; rfl⟩, hrun, by simpa using hable, by simpa using halone, by rw [State.code?_eq]; simp [State.setFrames, hmeth, hcode], hplain⟩
  have hstep : (stepThread p.tables e s).1 = (s.setFrames (.java (entryFrame m args mL) :: below)).setTop (entryFrame m args mL) := by
    have hfull : e.platform.stackFull (s.setFrames below).me (s.setFrames below).frames c.maxLocals = false := by
      obtain ⟨-, h1, -, h2⟩ := State.hasRoom_stack hroom
      rw [hf, List.length_cons] at h1
      rw [State.localsInUse_invoking hf hmeth hcode] at h2
      have hw := stackUse_le_stackWeight below
      rw [State.frames_setFrames _ hcur]
      exact Platform.stackFull_eq_false (by rw [State.stackLimits_setFrames]; omega) (by rw [State.stackLimits_setFrames]; omega)
    rw [stepThread_invoking hf, (doInvoke_java (s := s.setFrames below) (e := e) (meth := meth) (code := c) hmeth hcode hlocks hfull).1, State.setTop_self ht1]
    simp only [State.pushFrame, State.frames_setFrames _ hcur, State.setFrames_setFrames, hlocals, entryFrame]
  obtain ⟨t, hs, hq⟩ := body meth c _ ⟨ha, hc, hk, by cases p <;> rfl, hf, hname, hhears, hinit, hroom, hpre, hmeth, hret, hlocks, hbytes, rfl, hAt⟩ hlocals
  exact ⟨t, Steps.head (tb := p.tables) (e := e) ⟨hrun, hable, halone⟩ ⟨[.invoking m args], hf, by simp, by simp⟩ (hstep ▸ hs), hq⟩
/-- the start: the witness' own, with a hundred and one 136s for its script -/
def f9_s : State := start1.aboutOf (Array.replicate 101 (Value.int 136))
set_option maxRecDepth 16384 in
theorem f9_tbl : tables_1.all (fun w => w.onTables || w.before start1.args0 f9_s) = true := by decide +kernel
theorem f9_words : ∀ w ∈ tables_1, w.before start1.args0 f9_s = true := by
  intro w hw
  have h := start1.words w (List.mem_cons_of_mem _ hw)
  have hb := List.all_eq_true.mp f9_tbl w hw
  rcases Bool.or_eq_true _ _ ▸ hb with hb | hb
  · exact va_tabs hb (show start1.about.vm = f9_s.vm from rfl) h
  · exact hb

set_option maxRecDepth 16384 in
theorem f9_code : (Cond.code x code maxLocals ret).before start1.args0 f9_s = true := va_tabs (u := start1.about) (U := f9_s) (A := start1.args0) (by decide +kernel) (show start1.about.vm = f9_s.vm from rfl) (start1.words _ List.mem_cons_self)
theorem f9_all : ∀ w ∈ (Cond.code x code maxLocals ret :: tables_1), w.before start1.args0 f9_s = true := fun w hw => (List.mem_cons.mp hw).elim (fun h => h ▸ f9_code) (fun h => f9_words w h)
set_option maxRecDepth 16384 in
theorem f9_rest : rest_1_c.before start1.args0 f9_s = true := by decide +kernel
set_option maxRecDepth 16384 in
theorem f9_pre : (Jvm.Cond.and given_1 narrow_1).before start1.args0 f9_s = true := by decide +kernel
set_option maxRecDepth 16384 in
theorem f9_app1 : (headSpec (Cond.code x code maxLocals ret :: tables_1) room_1).applies x start1.e0.platform f9_s = true :=
  (Spec.applies_iff (m := ⟨0, 0⟩) (args := start1.args0) (below := Lib.HandBits.below0) rfl).mpr ⟨rfl, rfl, rfl, by decide +kernel, by decide +kernel, by decide +kernel, launch0.hasRoom_least _ room_1 (by decide +kernel) (by decide +kernel) (by decide +kernel) (by decide +kernel) (by decide +kernel) (by decide +kernel), atoms_intro f9_all⟩
set_option maxRecDepth 16384 in
theorem f9_app9 : (headSpec (Cond.code x code maxLocals ret :: tables_1) R9).applies x start1.e0.platform f9_s = true :=
  (Spec.applies_iff (m := ⟨0, 0⟩) (args := start1.args0) (below := Lib.HandBits.below0) rfl).mpr ⟨rfl, rfl, rfl, by decide +kernel, by decide +kernel, by decide +kernel, launch0.hasRoom_least _ R9 (by decide +kernel) (by decide +kernel) (by decide +kernel) (by decide +kernel) (by decide +kernel) (by decide +kernel), atoms_intro f9_all⟩
theorem f9_script : va_X 0 101 (fun _ => 136) f9_s f9_s.heap := by
  refine ⟨{ cls := 22, slots := Array.replicate 101 (Value.int 136), vm := .none }, rfl, ?_, by decide, by simp, fun j hj => by simp [hj]⟩
  have h0 : (Cond.arrayOf (.arg 0) .int).before start1.args0 f9_s = true := flat_of_before _ f9_pre _ (by decide +kernel)
  have h1 : (Cond.isInt (.length (.arg 0))).before start1.args0 f9_s = true := flat_of_before _ f9_rest _ (by decide +kernel)
  have h2 : (Cond.all (.arg 0) (.isInt (.elem (.arg 0) (.index 0)))).before start1.args0 f9_s = true := flat_of_before _ f9_rest _ (by decide +kernel)
  obtain ⟨b, xs, hb, cell, ha, -, hof, -⟩ := State.ints_of_pre rfl h0 h1 h2
  have e0 : b = 0 := by
    have : some (Value.ref 0) = some (Value.ref b) := hb
    cases this
    rfl
  subst e0
  obtain ⟨hcb, -⟩ := State.arrayAt?_spec ha
  have e1 : some ({ cls := 22, slots := Array.replicate 101 (Value.int 136), vm := .none } : Cell) = some cell := hcb
  cases e1
  exact hof
theorem f9_lf : launch0.stackTraces = false := by decide +kernel
/-- the law's run from that start: 191 new cells, at least, while the run is under way -/
theorem f9_walk : ∃ t, Steps start1.p0.tables start1.e0 Lib.HandBits.below0 f9_s t ∧ f9_s.heap.size + 191 ≤ t.heap.size := by
  refine g_begin (l := launch0) (y := x) (G := headSpec (Cond.code x code maxLocals ret :: tables_1) R9) (bytes := code) (mL := maxLocals) (rt := ret) (by decide) ?_ start1.p0 start1.e0 (launch0.admits_env _ _ _) fairChoices_fair.cas fairChoices_fair.clock f9_s ⟨0, 0⟩ start1.args0 Lib.HandBits.below0 rfl ((Spec.applies_iff_loose (m := ⟨0, 0⟩) (args := start1.args0) (below := Lib.HandBits.below0) rfl).mp f9_app9).1 _ ?_
  · intro args s m h hn
    obtain ⟨meth, c, h1, h2, h3, h4, h5, h6, -, -⟩ := Cond.code_spec hn (atoms_spec (ws := Jvm.Cond.code x code maxLocals ret :: tables_1) h _ List.mem_cons_self)
    exact ⟨meth, c, h1, h2, h3, h4, h5, h6⟩
  · intro meth c s₁ B hml
    have hts : ∀ w ∈ lw_tbl, w.before #[Value.ref 0] f9_s = true := k2_hts_sels lw_privs (fun w hw => f9_all w (List.mem_cons_of_mem _ hw)) lw_privs_ok
    have hown : f9_s.vm.findClass RL = some (⟨0, 0⟩ : MethodId).cls := findClass_of_methodNamed B.named
    have hh0 : s₁.heap = f9_s.heap := by rw [B.state]; rfl
    have hA0 : ∀ q : Nat, q < f9_s.heap.size → ¬ f9_s.heap.size ≤ q := fun q hq => Nat.not_le.mpr hq
    obtain ⟨sa, Z⟩ := st_Z (b := 0) (s := f9_s) (A := fun q : Nat => f9_s.heap.size ≤ q) hts f9_pre hA0
    obtain ⟨D, cI, cC, cZ, hK⟩ := st_K (b := 0) (s := f9_s) hts
    have S : CallFix start1.p0 ⟨0, 0⟩ c cL_law 6 f9_s #[Value.ref 0] wsL_law RL := ⟨B.exec, B.bytes, hml, hown, fun w h => hts w (wsL_law_in w h)⟩
    have K := law_walk (l := launch0) (e := start1.e0) (below := Lib.HandBits.below0) (meth := meth) f9_lf S Z hK (fun w hw => va_Nw.of (st_nestsT w hw) (hts w (st_nests w hw))) f9_script (by decide) (fun _ _ => rfl) (Q := fun t => f9_s.heap.size + 191 ≤ t.heap.size) (fun h h2 a b d z q a2 b2 d2 z2 q2 H locs ls I hs hl T hT X => ⟨_, Steps.refl _, by
      show f9_s.heap.size + 191 ≤ T.heap.size
      rw [hT]
      omega⟩)
    exact K s₁ hh0 (Stand.of_body B)
theorem f9_no {limb : Cond} : ¬ ArmFor flags0 classFile x code maxLocals ret World_1 tables_1 room_1 Calls_1 rest_1 Pre_1 (fun tb e a s o t => postC limb tb e a s o t ∧ Framed s o t (fieldLocs frame_1_writes a s ++ arrayLocs frame_1_arrays a s ++ staticLocs frame_1_statics s) 190 12076) := by
  intro h
  obtain ⟨n, o, h1, -, h3, -, h4⟩ := h launch0 rfl lists_1 trivial start1.p0 start1.e0 (launch0.admits_env _ _ _) fairChoices_fair.cas fairChoices_fair.clock f9_s ⟨0, 0⟩ start1.args0 Lib.HandBits.below0 rfl (by decide +kernel) (by decide +kernel) f9_app1 ⟨trivial, f9_rest, f9_pre⟩
  obtain ⟨t, ⟨n', e', w'⟩, hQ⟩ := f9_walk
  have hnn : n' ≤ n := by
    rcases Nat.lt_or_ge n n' with g | g
    · exact absurd (w' n g) h3.not_within
    · exact g
  obtain ⟨k, rfl⟩ := Nat.exists_eq_add_of_le hnn
  have hle := stepsAlone_heap_le start1.p0.tables start1.e0 k t
  rw [← e', ← stepsAlone_add] at hle
  have h5 : (stepsAlone start1.p0.tables start1.e0 (n' + k) f9_s).heap.size ≤ f9_s.heap.size + 190 := h4.2.2.2.2.1
  rw [← e'] at hQ
  omega
/-- neither half of the statement holds -/
theorem p28_false : (¬ Claimed_1_1) ∧ ¬ Claimed_1_2 := ⟨f9_no, f9_no⟩
end GFALSE
