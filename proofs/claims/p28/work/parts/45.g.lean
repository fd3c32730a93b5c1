section GC
/-! the law's helpers, where the world stays as it is: what they answer, and how many cells lie in the heap behind them that were not there before, at least -/
def gPost (D : va_G) (wc : va_W) (tys : List (ClassId × FieldType)) (v : Int32) (g sz : Nat) : Array Value → State → Outcome → State → Prop := fun _ st oc t =>
  ((oc = .returned (some (.int v)) ∧ va_P D vwCl wc t.heap ∧ va_K D vwCl tys t ∧ va_D (va_A wc sz) wc) ∧ va_F (va_A wc sz) st t) ∧ st.heap.size + g ≤ t.heap.size
def gC (l : Launch) (y : MethodName) (ws : List Cond) (rm : Room) (D : va_G) (sa : Nat → Nat) (av : List Value) (wc : va_W) (tys : List (ClassId × FieldType)) (v : Int32) (g mc ms : Nat) : Prop :=
  ∀ sz : Nat, Met l y ws rm (yPre D sa av wc tys sz) (gPost D wc tys v g sz) mc ms (va_A wc sz)
def gE (s : State) (args : Array Value) (below : List Frame) (meth : Method) (ret : Option FieldType) (D : va_G) (A : Nat → Prop) (wc : va_W) (tys : List (ClassId × FieldType)) (v : Int32) (g mc ms : Nat) (Q : State → Prop) : Prop :=
  Q = MQ below (gPost D wc tys v g s.heap.size) args s mc ms A ∧ A = va_A wc s.heap.size ∧ meth.sig.returnType = ret ∧ meth.locks = false
/-- a helper that reads the script -/
def cPre (D : va_G) (b L : Nat) (xs : Nat → Int32) (av : List Value) (tys : List (ClassId × FieldType)) (sz : Nat) : Array Value → State → Prop :=
  va_Pc av (fun U => U.heap.size = sz ∧ va_K D vwCl tys U ∧ xN U ∧ va_X b L xs U U.heap ∧ b < U.heap.size)
def kcellC (l : Launch) (y : MethodName) (ws : List Cond) (rm : Room) (D : va_G) (b L : Nat) (xs : Nat → Int32) (av : List Value) (tys : List (ClassId × FieldType)) (v : Int32) : Prop :=
  ∀ sz : Nat, Met l y ws rm (cPre D b L xs av tys sz) (gPost D [] tys v 0 sz) 0 0 (va_A [] sz)
theorem c_blind (D : va_G) (b L : Nat) (xs : Nat → Int32) (av : List Value) (tys : List (ClassId × FieldType)) (sz : Nat) : FrameBlind (cPre D b L xs av tys sz) := fun a U g mk q => by
  obtain ⟨q0, q1, qK, qN, qX, qb⟩ := q
  exact ⟨q0, q1, va_K.moved (u := U) (U := U.calling g mk a) (Vm.Alike.refl U.vm) qK, xN_same (u := U) (U := U.calling g mk a) rfl qN, va_X.moved (u := U) (U := U.calling g mk a) (Vm.Alike.refl U.vm) qX, qb⟩
theorem y_blind (D : va_G) (sa : Nat → Nat) (av : List Value) (wc : va_W) (tys : List (ClassId × FieldType)) (sz : Nat) : FrameBlind (yPre D sa av wc tys sz) := fun a U g mk q => by
  obtain ⟨q0, q1, qP, qK, qD, qN, qZ⟩ := q
  exact ⟨q0, q1, qP, va_K.moved (u := U) (U := U.calling g mk a) (Vm.Alike.refl U.vm) qK, qD, xN_same (u := U) (U := U.calling g mk a) rfl qN, yZ_same (u := U) (U := U.calling g mk a) rfl qZ⟩
section GW
variable {p : Program} {l : Launch} {e : Env} {R : Room} {s : State} {m : MethodId} {args : Array Value} {below : List Frame} {meth : Method} {c : Code} {H : Heap} {locs : List Loc} {cells slots : Nat} {Q : State → Prop}
/-- a body without handlers -/
theorem g_of {y : MethodName} {ws ws' : List Cond} {rm : Room} {D : va_G} {sa : Nat → Nat} {av : List Value} {wc : va_W} {tys : List (ClassId × FieldType)} {v : Int32} {g mc ms : Nat} {cc : ByteArray} {maxL : Nat} {ret : Option FieldType}
    (hy : plainName y.cls = true) (hw : ws = Cond.code y cc maxL ret :: ws') (hlen : (lg_sl av).length ≤ maxL)
    (body : ∀ (p : Program) (e : Env) (s : State) (m : MethodId) (args : Array Value) (below : List Frame) (meth : Method) (c : Code) (A : Nat → Prop) (Q : State → Prop) (ls : Array Slot),
      CallFix p m c cc maxL s args ws y.cls → xI D A s wc tys s.heap [] → yZ sa A s s.heap → gE s args below meth ret D A wc tys v g mc ms Q → lv_has ls maxL (lv_args 0 av) →
      W p l e (headSpec ws rm).room s m args below meth c s.heap [] 0 0 Q (F0 m 0 ls [])) : gC l y ws rm D sa av wc tys v g mc ms := by
  intro sz
  refine Met.ofW (cc := cc) (maxL := maxL) (ret := ret) hy hw ?_
  intro p e s m args below meth c s₁ B hml hv
  obtain ⟨rfl, hsz, hP, hK, hD0, hN, hZ⟩ := hv
  have hts := atoms_spec (ws := ws) B.pre
  have hown : s.vm.findClass y.cls = some m.cls := findClass_of_methodNamed B.named
  subst hsz
  have hD := hD0.self (sz := s.heap.size)
  rw [lg_entry_eq]
  exact body p e s m _ below meth c (va_A wc s.heap.size) _ _ ⟨B.exec, B.bytes, hml, hown, hts⟩ ⟨hP, hD, hK, va_S.rf, fun q h => Or.inr h, hN⟩ hZ ⟨rfl, rfl, B.returns, B.notSynchronized⟩ (lv_entry av hlen)
/-- a body with handlers -/
theorem g_ofW {y : MethodName} {ws ws' : List Cond} {rm : Room} {D : va_G} {sa : Nat → Nat} {av : List Value} {wc : va_W} {tys : List (ClassId × FieldType)} {v : Int32} {g mc ms : Nat} {cc : ByteArray} {maxL : Nat} {hh : List (Nat × Nat × Nat × Nat)}
    (hy : plainName y.cls = true) (hw : ws = Cond.codeWith y cc maxL (some .int) hh :: ws') (hlen : (lg_sl av).length ≤ maxL)
    (body : ∀ (p : Program) (e : Env) (s : State) (m : MethodId) (args : Array Value) (below : List Frame) (meth : Method) (c : Code) (A : Nat → Prop) (Q : State → Prop) (ls : Array Slot),
      CallFix p m c cc maxL s args ws y.cls → xI D A s wc tys s.heap [] → yZ sa A s s.heap → c.exceptionTable.toList = tableOf hh → gE s args below meth (some .int) D A wc tys v g mc ms Q → lv_has ls maxL (lv_args 0 av) →
      W p l e (headSpec ws rm).room s m args below meth c s.heap [] 0 0 Q (F0 m 0 ls [])) : gC l y ws rm D sa av wc tys v g mc ms := by
  intro sz
  refine MetFree.of_bodyS (code := cc) (maxLocals := maxL) (ret := some .int) hy ?_ ?_
  · intro args s m h hn
    obtain ⟨m9, meth, c, hn9, h1, h2, h3, h4, -, h5, h6, -⟩ := Cond.codeWith_spec (atoms_spec (ws := ws) h _ (by rw [hw]; exact List.mem_cons_self))
    cases hn.symm.trans hn9
    exact ⟨meth, c, h1, h2, h3, h4, h5, h6⟩
  · intro p e s m args below meth c s₁ B hml hv _
    have hh0 : s₁.heap = s.heap := by rw [B.state]; rfl
    have hts := atoms_spec (ws := ws) B.pre
    have htab := vx_table (x := y) B (hts _ (by rw [hw]; exact List.mem_cons_self))
    obtain ⟨rfl, hsz, hP, hK, hD0, hN, hZ⟩ := hv
    have hown : s.vm.findClass y.cls = some m.cls := findClass_of_methodNamed B.named
    subst hsz
    have hD := hD0.self (sz := s.heap.size)
    have w := body p e s m _ below meth c (va_A wc s.heap.size) _ _ ⟨B.exec, B.bytes, hml, hown, hts⟩ ⟨hP, hD, hK, va_S.rf, fun q h => Or.inr h, hN⟩ hZ htab ⟨rfl, rfl, B.returns, B.notSynchronized⟩ (lv_entry av hlen)
    rw [← lg_entry_eq] at w
    obtain ⟨t, a1, o, b1, b2, b3⟩ := w s₁ hh0 (Stand.of_body B)
    exact ⟨t, o, a1, b1, b2, ⟨b3.1, b3.2⟩⟩
/-- the body of the helper that reads the script -/
theorem c_of {y : MethodName} {ws ws' : List Cond} {rm : Room} {D : va_G} {b L : Nat} {xs : Nat → Int32} {av : List Value} {tys : List (ClassId × FieldType)} {v : Int32} {cc : ByteArray} {maxL : Nat} {ret : Option FieldType}
    (hy : plainName y.cls = true) (hw : ws = Cond.code y cc maxL ret :: ws') (hlen : (lg_sl av).length ≤ maxL)
    (body : ∀ (p : Program) (e : Env) (s : State) (m : MethodId) (args : Array Value) (below : List Frame) (meth : Method) (c : Code) (A : Nat → Prop) (Q : State → Prop) (ls : Array Slot),
      CallFix p m c cc maxL s args ws y.cls → xI D A s [] tys s.heap [] → va_X b L xs s s.heap → b < s.heap.size → ¬ A b → gE s args below meth ret D A [] tys v 0 0 0 Q → lv_has ls maxL (lv_args 0 av) →
      W p l e (headSpec ws rm).room s m args below meth c s.heap [] 0 0 Q (F0 m 0 ls [])) : kcellC l y ws rm D b L xs av tys v := by
  intro sz
  refine Met.ofW (cc := cc) (maxL := maxL) (ret := ret) hy hw ?_
  intro p e s m args below meth c s₁ B hml hv
  obtain ⟨rfl, hsz, hK, hN, hX, hb⟩ := hv
  have hts := atoms_spec (ws := ws) B.pre
  have hown : s.vm.findClass y.cls = some m.cls := findClass_of_methodNamed B.named
  subst hsz
  rw [lg_entry_eq]
  refine body p e s m _ below meth c (va_A [] s.heap.size) _ _ ⟨B.exec, B.bytes, hml, hown, hts⟩ ⟨fun k q h => by simp at h, ⟨fun i j p q h => by simp at h, fun k q h => by simp at h⟩, hK, va_S.rf, fun q h => Or.inr h, hN⟩ hX hb ?_ ⟨rfl, rfl, B.returns, B.notSynchronized⟩ (lv_entry av hlen)
  rintro (⟨k, e, h⟩ | h)
  · simp at h
  · exact absurd h (Nat.not_le.mpr hb)
section GR
variable {cc : ByteArray} {D : va_G} {A : Nat → Prop} {wc : va_W} {tys : List (ClassId × FieldType)} {ws : va_W} {nL : Nat} {Ts : List Cond} {own : String} {sa : Nat → Nat} {v : Int32} {g mc ms : Nat} {hh : List (Nat × Nat × Nat × Nat)} {ret : Option FieldType} {pc : Nat} {ls : Array Slot} {rest : List Value}
theorem g_ret (S : CallFix p m c cc nL s args Ts own) (E : gE s args below meth ret D A wc tys v g mc ms Q) {ty : FieldType} {w : Int32} (hret : ret = some ty) (hn : narrow ty (.int w) = .int v) (I : xI D A s wc tys H locs) (hg : s.heap.size + g ≤ H.size) (hd : decode cc pc = .ok (.ireturn, 1)) :
    W p l e R s m args below meth c H locs mc ms Q (F0 m pc ls [.int w]) := by
  obtain ⟨rfl, rfl, hr, hlocks⟩ := E
  obtain ⟨iP, iD, iK, iS, -, -⟩ := I
  exact x_nret S.1 S.2.1 (hr.trans hret) hn (fun t ht hW => ⟨⟨⟨rfl, by rw [ht]; exact iP, va_K.moved hW.alike iK, iD⟩, iS.F ht⟩, by rw [ht]; exact hg⟩) iS.2.2 hd hlocks
/-- behind a helper's run -/
theorem g_back {Aa : Array Value} {st0 : List Value} {tysC : List (ClassId × FieldType)} (I : xI D A s ws tys H locs)
    (isC isR perm : List Nat) (hC1 : isC.map (fun i => ws[i]?) = wc.map some) (hR1 : isR.map (fun i => ws[i]?) = (isR.filterMap (fun i => ws[i]?)).map some) (hnR : va_nd isR = true) (hdis : ∀ i ∈ isR, i ∉ isC)
    (hp1 : perm.filterMap (fun i => (isR.filterMap (fun i => ws[i]?) ++ wc)[i]?) = ws) (hp2 : perm.map (fun i => (isR.filterMap (fun i => ws[i]?) ++ wc)[i]?) = ws.map some) (hpn : va_nd perm = true)
    (hr : va_Run p l e R s m args below meth c H locs cells slots mc ms (F0 m pc ls st0) rest (gPost D wc tysC v g H.size Aa) (va_A wc H.size))
    (kk : ∀ (H1 : Heap) (locs1 : List Loc), xI D A s ws tys H1 locs1 → H.size + g ≤ H1.size → W p l e R s m args below meth c H1 locs1 (cells + mc) (slots + ms) Q (F0 m (pc + 3) ls (.int v :: rest))) : W p l e R s m args below meth c H locs cells slots Q (F0 m pc ls st0) := by
  obtain ⟨iP, iD, iK, iS, iA, iN⟩ := I
  have hF := va_free (wc := wc) iD iS iA isC hC1
  intro T hT X
  obtain ⟨v9, st₀, t, T', L, h0, X', hL, e1, e2, ⟨⟨⟨hv, hP1, hK1, hD1⟩, hz, hk⟩, hg⟩, st⟩ := hr T hT X
  cases hv
  rw [h0] at hz hk hg
  rw [← e1] at hP1 hk hz hg
  obtain ⟨jP, jD⟩ := va_join (wr := isR.filterMap (fun i => ws[i]?)) iP iD isC isR hC1 hR1 hnR hdis (fun q h1 h2 => hk q h1 h2) hF hP1 hD1
  obtain ⟨t2, a1, b1⟩ := kk T'.heap (locs ++ L) ⟨jP.sub perm hp1, jD.sub perm hpn hp2, iK,
    ⟨Nat.le_trans iS.1 hz, fun q h1 h2 => by rw [hk q (Nat.lt_of_lt_of_le h1 iS.1) (fun z => h2 (hF q z))]; exact iS.2.1 q h1 h2, fun q hq => by
      rcases List.mem_append.mp hq with h | h
      · exact iS.2.2 q h
      · exact hF _ (hL q h)⟩, iA, iN⟩ hg T' rfl X'
  exact ⟨t2, st t2 a1, b1⟩
/-- a call's start, for a helper that may throw and catch -/
theorem g_pre {As : List Value} (I : xI D A s ws tys H locs) (Z : yZ sa A s s.heap) (isC : List Nat) (hC1 : isC.map (fun i => ws[i]?) = wc.map some) (hnC : va_nd isC = true) : ∀ U : State, U.heap = H → s.WarmedH U.vm → yPre D sa As wc tys H.size As.toArray U := by
  obtain ⟨iP, iD, iK, iS, iA, iN⟩ := I
  have hF := va_free (wc := wc) iD iS iA isC hC1
  intro U hU hW
  refine ⟨rfl, by rw [hU], ?_, va_K.moved hW.alike iK, (iD.sub isC hnC hC1).weaken (fun _ _ _ _ => trivial), xN_warm hW iN, by rw [hU]; exact yZ_go hW (fun a h1 h2 => iS.2.1 a h1 h2) hF Z⟩
  rw [hU]
  refine iP.sub isC ?_
  have h := congrArg (fun z => z.filterMap id) hC1
  simpa [List.filterMap_map, Function.comp_def] using h
variable {y : MethodName} {bytes : ByteArray} {maxL n index : Nat} {retY : Option FieldType} {wsY : List Cond} {rm : Room} {As : List Value} {lv : List (Nat × Value)} {C : String} {b : Addr}
theorem g_cSW (S : CallFix p m c cc nL s args Ts own) (I : xI D A s ws tys H locs) (Z : yZ sa A s s.heap)
    (hC : gC l y wsY rm D sa As wc tys v g mc ms) (cw : vx_CSW R s args own index y bytes maxL retY hh wsY rm mc ms n)
    (isC isR perm : List Nat) (hC1 : isC.map (fun i => ws[i]?) = wc.map some) (hnC : va_nd isC = true) (hR1 : isR.map (fun i => ws[i]?) = (isR.filterMap (fun i => ws[i]?)).map some) (hnR : va_nd isR = true) (hdis : ∀ i ∈ isR, i ∉ isC)
    (hp1 : perm.filterMap (fun i => (isR.filterMap (fun i => ws[i]?) ++ wc)[i]?) = ws) (hp2 : perm.map (fun i => (isR.filterMap (fun i => ws[i]?) ++ wc)[i]?) = ws.map some) (hpn : va_nd perm = true)
    (hl : lv_has ls nL lv) (hn : As.length = n) (hroom : (rest.map fun v => v.category).sum ≤ 8) (hcs : cells + mc ≤ R.cells ∧ slots + ms ≤ R.slots) (hdg : decode cc pc = .ok (.invokestatic index, 3))
    (kk : ∀ (H1 : Heap) (locs1 : List Loc), xI D A s ws tys H1 locs1 → H.size + g ≤ H1.size → W p l e R s m args below meth c H1 locs1 (cells + mc) (slots + ms) Q (F0 m (pc + 3) ls (.int v :: rest))) :
    W p l e R s m args below meth c H locs cells slots Q (F0 m pc ls (As.reverse ++ rest)) :=
  g_back I isC isR perm hC1 hR1 hnR hdis hp1 hp2 hpn (vx_runSW (As := As) (rest := rest) (g := F0 m pc ls (As.reverse ++ rest)) S (hC H.size) cw ⟨y_blind D sa _ wc tys H.size, g_pre I Z isC hC1 hnC⟩ rfl hn hl.1 rfl (lv_room hroom) hdg hcs) kk
theorem g_cS (S : CallFix p m c cc nL s args Ts own) (I : xI D A s ws tys H locs) (Z : yZ sa A s s.heap)
    (hC : gC l y wsY rm D sa As wc tys v g mc ms) (cw : CallB R s args own index y bytes maxL retY wsY rm mc ms n ∧ (Cond.static y).before args s = true)
    (isC isR perm : List Nat) (hC1 : isC.map (fun i => ws[i]?) = wc.map some) (hnC : va_nd isC = true) (hR1 : isR.map (fun i => ws[i]?) = (isR.filterMap (fun i => ws[i]?)).map some) (hnR : va_nd isR = true) (hdis : ∀ i ∈ isR, i ∉ isC)
    (hp1 : perm.filterMap (fun i => (isR.filterMap (fun i => ws[i]?) ++ wc)[i]?) = ws) (hp2 : perm.map (fun i => (isR.filterMap (fun i => ws[i]?) ++ wc)[i]?) = ws.map some) (hpn : va_nd perm = true)
    (hl : lv_has ls nL lv) (hn : As.length = n) (hroom : (rest.map fun v => v.category).sum ≤ 8) (hcs : cells + mc ≤ R.cells ∧ slots + ms ≤ R.slots) (hdg : decode cc pc = .ok (.invokestatic index, 3))
    (kk : ∀ (H1 : Heap) (locs1 : List Loc), xI D A s ws tys H1 locs1 → H.size + g ≤ H1.size → W p l e R s m args below meth c H1 locs1 (cells + mc) (slots + ms) Q (F0 m (pc + 3) ls (.int v :: rest))) :
    W p l e R s m args below meth c H locs cells slots Q (F0 m pc ls (As.reverse ++ rest)) :=
  g_back I isC isR perm hC1 hR1 hnR hdis hp1 hp2 hpn (va_runS (As := As) (rest := rest) (g := F0 m pc ls (As.reverse ++ rest)) S (hC H.size) cw ⟨y_blind D sa _ wc tys H.size, g_pre I Z isC hC1 hnC⟩ rfl hn hl.1 rfl (lv_room hroom) hdg hcs) kk
/-- the call of the helper that reads the script -/
theorem c_cS {b0 L : Nat} {xs : Nat → Int32} (S : CallFix p m c cc nL s args Ts own) (I : xI D A s ws tys H locs) (hX : va_X b0 L xs s s.heap) (hbl : b0 < s.heap.size) (hbA : ¬ A b0)
    (hC : kcellC l y wsY rm D b0 L xs As tys v) (cw : CallB R s args own index y bytes maxL retY wsY rm 0 0 n ∧ (Cond.static y).before args s = true)
    (isR : List Nat) (hR1 : isR.map (fun i => ws[i]?) = (isR.filterMap (fun i => ws[i]?)).map some) (hnR : va_nd isR = true)
    (hp1 : isR.filterMap (fun i => (isR.filterMap (fun i => ws[i]?) ++ ([] : va_W))[i]?) = ws) (hp2 : isR.map (fun i => (isR.filterMap (fun i => ws[i]?) ++ ([] : va_W))[i]?) = ws.map some)
    (hl : lv_has ls nL lv) (hn : As.length = n) (hroom : (rest.map fun v => v.category).sum ≤ 8) (hcs : cells ≤ R.cells ∧ slots ≤ R.slots) (hdg : decode cc pc = .ok (.invokestatic index, 3))
    (kk : ∀ (H1 : Heap) (locs1 : List Loc), xI D A s ws tys H1 locs1 → H.size + 0 ≤ H1.size → W p l e R s m args below meth c H1 locs1 cells slots Q (F0 m (pc + 3) ls (.int v :: rest))) :
    W p l e R s m args below meth c H locs cells slots Q (F0 m pc ls (As.reverse ++ rest)) := by
  have hpre : ∀ U : State, U.heap = H → s.WarmedH U.vm → cPre D b0 L xs As tys H.size As.toArray U := by
    obtain ⟨iP, iD, iK, iS, iA, iN⟩ := id I
    intro U hU hW
    refine ⟨rfl, by rw [hU], va_K.moved hW.alike iK, xN_warm hW iN, ?_, by rw [hU]; exact Nat.lt_of_lt_of_le hbl iS.1⟩
    rw [hU]
    exact va_X.moved hW.alike (hX.kept (iS.2.1 b0 hbl hbA))
  exact g_back (wc := []) I [] isR isR rfl hR1 hnR (fun _ _ h => nomatch h) hp1 hp2 hnR (va_runS (As := As) (rest := rest) (g := F0 m pc ls (As.reverse ++ rest)) S (hC H.size) cw ⟨c_blind D b0 L xs _ tys H.size, hpre⟩ rfl hn hl.1 rfl (lv_room hroom) hdg hcs) kk
/-- a call of a method of the class that answers and leaves its world as it is -/
theorem g_cV {τ : Type} {wcF : τ → va_W} {ovF : τ → Option Value} {res : τ} {tysC : List (ClassId × FieldType)} (S : CallFix p m c cc nL s args Ts own) (I : xI D A s ws tys H locs) (isT : List Nat) (hT : isT.filterMap (fun i => tys[i]?) = tysC)
    (hC : xC l y wsY rm D (.ref b :: As) wc wcF tysC ovF res) (hwF : wcF res = wc) (hov : ovF res = some (.int v)) (cw : CallW R s args own C index y bytes maxL retY wsY rm 0 0 n)
    (q0 ci : Nat) {q : vw_C} {fs : List Value} (hci : vwCl[ci]? = some q) (hqC : q.1 = C) (hq0 : ws[q0]? = some (b, .inr (ci, fs)))
    (isC isR perm : List Nat) (hC1 : isC.map (fun i => ws[i]?) = wc.map some) (hnC : va_nd isC = true) (hR1 : isR.map (fun i => ws[i]?) = (isR.filterMap (fun i => ws[i]?)).map some) (hnR : va_nd isR = true) (hdis : ∀ i ∈ isR, i ∉ isC)
    (hp1 : perm.filterMap (fun i => (isR.filterMap (fun i => ws[i]?) ++ wc)[i]?) = ws) (hp2 : perm.map (fun i => (isR.filterMap (fun i => ws[i]?) ++ wc)[i]?) = ws.map some) (hpn : va_nd perm = true)
    (hl : lv_has ls nL lv) (hn : As.length = n) (hroom : (rest.map fun v => v.category).sum ≤ 8) (hcs : cells ≤ R.cells ∧ slots ≤ R.slots) (hdg : decode cc pc = .ok (.invokevirtual index, 3))
    (kk : ∀ (H1 : Heap) (locs1 : List Loc), xI D A s ws tys H1 locs1 → H.size + 0 ≤ H1.size → W p l e R s m args below meth c H1 locs1 cells slots Q (F0 m (pc + 3) ls (.int v :: rest))) :
    W p l e R s m args below meth c H locs cells slots Q (F0 m pc ls (As.reverse ++ .ref b :: rest)) := by
  have hr : va_Run p l e R s m args below meth c H locs cells slots 0 0 (F0 m pc ls (As.reverse ++ .ref b :: rest)) rest (xPost D wc wcF tysC ovF res H.size (Value.ref b :: As).toArray) (va_A wc H.size) := va_runV (As := As) (rest := rest) (g := F0 m pc ls (As.reverse ++ .ref b :: rest)) S (hC H.size) cw ⟨x_blind D _ wc tysC H.size, by rw [← hqC]; exact va_recv I.2.2.1 I.1 hci hq0, k_pre I isT hT isC hC1 hnC⟩ rfl hn hl.1 rfl (lv_room hroom) hdg hcs
  refine g_back (mc := 0) (ms := 0) (v := v) (rest := rest) (tysC := tysC) (g := 0) (Aa := (Value.ref b :: As).toArray) I isC isR perm hC1 hR1 hnR hdis hp1 hp2 hpn ?_ kk
  intro T hT9 X
  obtain ⟨v9, st₀, t, T', L, h0, X', hL, e1, e2, ⟨⟨hv, hP1, hK1, hD1⟩, hz, hk⟩, st⟩ := hr T hT9 X
  rw [hwF] at hP1 hD1
  rw [hov] at hv
  exact ⟨v9, st₀, t, T', L, h0, X', hL, e1, e2, ⟨⟨⟨hv, hP1, hK1, hD1⟩, hz, hk⟩, hz⟩, st⟩
/-- a call of a method of the class that throws and leaves its world as it is -/
theorem g_cVx {τ : Type} {wcC : va_W} {wcG : Int32 × τ → va_W} {tysC : List (ClassId × FieldType)} {ovF : Int32 × τ → Option Value} {resC : Int32 × τ} {ex : Int32 → String} (S : CallFix p m c cc nL s args Ts own) (I : xI D A s ws tys H locs) (Z : yZ sa A s s.heap) (isT : List Nat) (hT : isT.filterMap (fun i => tys[i]?) = tysC)
    (hC : yC l y wsY rm ex D sa (.ref b :: As) wcC wcG tysC ovF resC) (hthr : resC.1 ≠ 0) (hwG : wcG resC = wcC) (cw : CallW R s args own C index y bytes maxL retY wsY rm 1 6 n)
    (q0 ci : Nat) {q : vw_C} {fs : List Value} (hci : vwCl[ci]? = some q) (hqC : q.1 = C) (hq0 : ws[q0]? = some (b, .inr (ci, fs)))
    (isC isR perm : List Nat) (hC1 : isC.map (fun i => ws[i]?) = wcC.map some) (hnC : va_nd isC = true) (hR1 : isR.map (fun i => ws[i]?) = (isR.filterMap (fun i => ws[i]?)).map some) (hnR : va_nd isR = true) (hdis : ∀ i ∈ isR, i ∉ isC)
    (hp1 : perm.filterMap (fun i => (isR.filterMap (fun i => ws[i]?) ++ wcC)[i]?) = ws) (hp2 : perm.map (fun i => (isR.filterMap (fun i => ws[i]?) ++ wcC)[i]?) = ws.map some) (hpn : va_nd perm = true)
    (hl : lv_has ls nL lv) (hn : As.length = n) (hroom : (rest.map fun v => v.category).sum ≤ 8) (hcs : cells + 1 ≤ R.cells ∧ slots + 6 ≤ R.slots) (hdg : decode cc pc = .ok (.invokevirtual index, 3))
    (kx : ∀ (H1 : Heap) (locs1 : List Loc) (q9 : Addr) (ce : Cell), xI D A s ws tys H1 locs1 → H.size + 1 ≤ H1.size → H1[q9]? = some ce → ce.vm = .none → s.vm.findClass (ex resC.1) = some ce.cls → vx_W p l e R s m args below meth c H1 locs1 (cells + 1) (slots + 6) Q (F0 m pc ls rest) q9) :
    W p l e R s m args below meth c H locs cells slots Q (F0 m pc ls (As.reverse ++ .ref b :: rest)) := by
  obtain ⟨iP, iD, iK, iS, iA, iN⟩ := id I
  have hF := va_free (wc := wcC) iD iS iA isC hC1
  have hpre : ∀ U : State, U.heap = H → s.WarmedH U.vm → yPre D sa (.ref b :: As) wcC tysC H.size (Value.ref b :: As).toArray U := by
    intro U hU hW
    refine ⟨rfl, by rw [hU], ?_, va_K.moved hW.alike (iK.sub isT hT), (iD.sub isC hnC hC1).weaken (fun _ _ _ _ => trivial), xN_warm hW iN, by rw [hU]; exact yZ_go hW (fun a h1 h2 => iS.2.1 a h1 h2) hF Z⟩
    rw [hU]
    refine iP.sub isC ?_
    have h := congrArg (fun z => z.filterMap id) hC1
    simpa [List.filterMap_map, Function.comp_def] using h
  have hr : vx_Run p l e R s m args below meth c H locs cells slots 1 6 (F0 m pc ls (As.reverse ++ .ref b :: rest)) rest (yPost D wcC wcG tysC ovF resC H.size (Value.ref b :: As).toArray) (yX ex D wcC wcG tysC resC H.size) (va_A wcC H.size) :=
    vx_runV (As := As) (rest := rest) S (hC H.size) cw ⟨y_blind D sa _ wcC tysC H.size, by rw [← hqC]; exact va_recv iK iP hci hq0, hpre⟩ rfl hn hl.1 rfl (lv_room hroom) hdg hcs
  intro T hT9 X
  rcases hr T hT9 X with ⟨v, st₀, t, T', L, h0, X', hL, e1, e2, ⟨⟨h00, hv, hP1, hK1, hD1⟩, hz, hk⟩, st⟩ | ⟨q9, st₀, t, T', L, E9, ce, h0, X', hL, e1, e2, ⟨⟨⟨h00, hE9, hP1, hK1, hD1⟩, hz, hk⟩, hg⟩, hce, hcv, hcl, st⟩
  · exact absurd h00 hthr
  · subst hE9
    rw [hwG] at hP1 hD1
    rw [h0] at hz hk hg
    rw [← e1] at hP1 hk hz hce hg
    obtain ⟨jP, jD⟩ := va_join (wr := isR.filterMap (fun i => ws[i]?)) iP iD isC isR hC1 hR1 hnR hdis (fun q h1 h2 => hk q h1 h2) hF hP1 hD1
    obtain ⟨t2, a1, b1⟩ := kx T'.heap (locs ++ L) q9 ce ⟨jP.sub perm hp1, jD.sub perm hpn hp2, iK,
      ⟨Nat.le_trans iS.1 hz, fun q h1 h2 => by rw [hk q (Nat.lt_of_lt_of_le h1 iS.1) (fun z => h2 (hF q z))]; exact iS.2.1 q h1 h2, fun q hq => by
        rcases List.mem_append.mp hq with h | h
        · exact iS.2.2 q h
        · exact hF _ (hL q h)⟩, iA, iN⟩ hg hce hcv hcl T' rfl X'
    exact ⟨t2, st.trans a1, b1⟩
/-- a handler: the rows ahead of it name other classes -/
theorem w_catch {nm E9 : String} {ce : Cell} {q9 : Addr} (S : CallFix p m c cc nL s args Ts own) (Z : yZ sa A s s.heap) (htab : c.exceptionTable.toList = tableOf hh) (pre : List ExceptionTableEntry) (x : ExceptionTableEntry) (suf : List ExceptionTableEntry) (hsplit : tableOf hh = pre ++ x :: suf)
    (hpass : ∀ z ∈ pre, z.catchType ≠ 0 ∧ ∃ n9 : String, Cond.classLink own z.catchType n9 ∈ Ts ∧ va_Nc E9 n9 s) (hx : covers x pc = true) (h0 : x.catchType ≠ 0) (hlink : Cond.classLink own x.catchType nm ∈ Ts) (hE : E9 = nm) (hcast : Cond.castable nm nm ∈ yB)
    (hcell : H[q9]? = some ce) (hv : ce.vm = .none) (hcl : s.vm.findClass E9 = some ce.cls)
    (kk : W p l e R s m args below meth c H locs cells slots Q (F0 m x.handlerPc ls [.ref q9])) : vx_W p l e R s m args below meth c H locs cells slots Q (F0 m pc ls rest) q9 := by
  obtain ⟨hx9, hb, hml, ho, hts⟩ := S
  subst hE
  exact vx_catch ho pre x suf (htab.trans hsplit) (fun z hz => by
    obtain ⟨h1, n9, h2, h3⟩ := hpass z hz
    exact Or.inr ⟨h1, n9, hts _ h2, h3⟩) hx h0 (hts _ hlink) (va_Nw.use rfl (Z.1 _ hcast)) hcell hv hcl kk
end GR
end GW
end GC
