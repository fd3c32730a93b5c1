section YC
abbrev yIAE : String := "java/lang/IllegalArgumentException"
abbrev yISE : String := "java/lang/IllegalStateException"
abbrev yIOE : String := "java/lang/IndexOutOfBoundsException"
abbrev yNames : List String := ["java/lang/RuntimeException", "java/lang/Exception"]
/-! what the start says of the exceptions, of the texts, of the letters -/
def yB : List Cond := [.declares (Bundle.initS "java/lang/RuntimeException"), .declares (Bundle.initS "java/lang/Exception"), .declares (Bundle.initS "java/lang/Throwable"), .castable yIAE yIAE, .castable yISE yISE, .castable yIOE yIOE]
def yStr : List (Nat × String) := [(36, "a page has no such letter"), (47, "the page is full"), (87, "a number is out of range"), (93, "the page is no formula that can be tried"), (102, "the page cannot be made a principle"), (114, "there is no such principle"), (123, "the premises are out of range"), (131, "the rule cannot be told"), (136, "the set is out of range"), (144, "the model cannot be told"), (153, "there is no such principle or step"), (159, "both principles are the same"), (167, "the pool is out of range"), (175, "there is no such thing to tell"), (183, "there can be no such problem"), (188, "there are as many problems as can be"), (196, "there is no such problem"), (201, "the product cannot be added"), (213, "there is no such problem or instance"), (227, "there is no such game")]
def yLets : List Int32 := [120, 121, 122, 65, 69, 97, 101, 33, 40, 41, 38, 124, 62, 60, 61]
def yNcs (U : State) : Prop := va_Nc yIAE yISE U ∧ va_Nc yIAE yIOE U ∧ va_Nc yISE yIAE U ∧ va_Nc yISE yIOE U ∧ va_Nc yIOE yIAE U ∧ va_Nc yIOE yISE U
def yLet (kS vS : Nat) (A : Nat → Prop) (U : State) (H : Heap) : Prop :=
  vk_R RX2 35 "xyzAEae!()&|><=" kS U ∧ va_O "java/lang/String" kS A U H ∧ va_OF "java/lang/String" "coder" "B" (.int 0) kS A U H ∧ va_OF "java/lang/String" "value" "[B" (.ref vS) kS A U H ∧ va_T .byte vS 15 (fun j => .int (yLets.getD j 0)) A U H ∧ va_Z "java/lang/String" "COMPACT_STRINGS" "Z" (.int 1) A U H
def yZ (sa : Nat → Nat) (A : Nat → Prop) (U : State) (H : Heap) : Prop :=
  (∀ w ∈ yB, va_Nw w U) ∧ yNcs U ∧ (∀ q ∈ yStr, vk_R RX5 q.1 q.2 (sa q.1) U) ∧ vx_Zq Bundle.tN "UNASSIGNED_STACK" Bundle.steD A U H ∧ vx_Zq Bundle.tN "SUPPRESSED_SENTINEL" Bundle.listD A U H ∧ yLet (sa 0) (sa 1) A U H
theorem yB_warm {s U : State} (hW : s.WarmedH U.vm) (h : ∀ w ∈ yB, va_Nw w s) : ∀ w ∈ yB, va_Nw w U := by
  intro w hw
  have h1 := h w hw
  simp only [yB, List.mem_cons, List.not_mem_nil, or_false] at hw
  rcases hw with rfl | rfl | rfl | rfl | rfl | rfl <;> first | exact va_Nw.warmD hW h1 | exact va_Nw.warmC hW h1
theorem yB_same {u U : State} (hvm : u.vm = U.vm) (h : ∀ w ∈ yB, va_Nw w u) : ∀ w ∈ yB, va_Nw w U := by
  intro w hw
  have h1 := h w hw
  simp only [yB, List.mem_cons, List.not_mem_nil, or_false] at hw
  rcases hw with rfl | rfl | rfl | rfl | rfl | rfl <;> exact va_Nw.same rfl hvm h1
theorem yNcs_moved {u U : State} (hvm : u.vm.Alike U.vm) (h : yNcs u) : yNcs U := ⟨h.1.moved hvm, h.2.1.moved hvm, h.2.2.1.moved hvm, h.2.2.2.1.moved hvm, h.2.2.2.2.1.moved hvm, h.2.2.2.2.2.moved hvm⟩
theorem yLet_go {kS vS : Nat} {A B : Nat → Prop} {s U : State} {H : Heap} (hW : s.WarmedH U.vm) (hq : ∀ a : Nat, a < s.heap.size → ¬ A a → H[a]? = s.heap[a]?) (hAB : ∀ q, B q → A q) (h : yLet kS vS A s s.heap) : yLet kS vS B U H :=
  ⟨h.1.warm hW, (va_O.moved hW.alike (h.2.1.kept hq)).narrow hAB, (va_OF.moved hW.alike (h.2.2.1.kept hq)).narrow hAB, (va_OF.moved hW.alike (h.2.2.2.1.kept hq)).narrow hAB, (va_T.moved hW.alike (h.2.2.2.2.1.kept hq)).narrow hAB, (va_Z.moved hW.alike (h.2.2.2.2.2.kept hq)).narrow hAB⟩
theorem yZ_go {sa : Nat → Nat} {A B : Nat → Prop} {s U : State} {H : Heap} (hW : s.WarmedH U.vm) (hq : ∀ a : Nat, a < s.heap.size → ¬ A a → H[a]? = s.heap[a]?) (hAB : ∀ q, B q → A q) (h : yZ sa A s s.heap) : yZ sa B U H :=
  ⟨yB_warm hW h.1, yNcs_moved hW.alike h.2.1, fun q hm => (h.2.2.1 q hm).warm hW, (vx_Zq.moved hW.alike (h.2.2.2.1.kept hq)).narrow hAB, (vx_Zq.moved hW.alike (h.2.2.2.2.1.kept hq)).narrow hAB, yLet_go hW hq hAB h.2.2.2.2.2⟩
theorem yLet_same {kS vS : Nat} {A : Nat → Prop} {u U : State} {H : Heap} (hvm : u.vm = U.vm) (h : yLet kS vS A u H) : yLet kS vS A U H := by
  have hal : u.vm.Alike U.vm := by rw [hvm]; exact Vm.Alike.refl _
  exact ⟨h.1.same hvm.symm, va_O.moved hal h.2.1, va_OF.moved hal h.2.2.1, va_OF.moved hal h.2.2.2.1, va_T.moved hal h.2.2.2.2.1, va_Z.moved hal h.2.2.2.2.2⟩
theorem yZ_same {sa : Nat → Nat} {A : Nat → Prop} {u U : State} {H : Heap} (hvm : u.vm = U.vm) (h : yZ sa A u H) : yZ sa A U H := by
  have hal : u.vm.Alike U.vm := by rw [hvm]; exact Vm.Alike.refl _
  exact ⟨yB_same hvm h.1, yNcs_moved hal h.2.1, fun q hm => (h.2.2.1 q hm).same hvm.symm, vx_Zq.moved hal h.2.2.2.1, vx_Zq.moved hal h.2.2.2.2.1, yLet_same hvm h.2.2.2.2.2⟩
/-! contracts of methods that answer or throw: the first of res is 0, or which exception -/
def yPre (D : va_G) (sa : Nat → Nat) (av : List Value) (wc : va_W) (tys : List (ClassId × FieldType)) (sz : Nat) : Array Value → State → Prop :=
  va_Pc av (fun U => U.heap.size = sz ∧ va_P D vwCl wc U.heap ∧ va_K D vwCl tys U ∧ va_D (fun _ => True) wc ∧ xN U ∧ yZ sa (va_A wc sz) U U.heap)
def yPost {σ : Type} (D : va_G) (wc : va_W) (wcF : Int32 × σ → va_W) (tys : List (ClassId × FieldType)) (ovF : Int32 × σ → Option Value) (res : Int32 × σ) (sz : Nat) : Array Value → State → Outcome → State → Prop := fun _ st oc t =>
  (res.1 = 0 ∧ oc = .returned (ovF res) ∧ va_P D vwCl (wcF res) t.heap ∧ va_K D vwCl tys t ∧ va_D (va_A wc sz) (wcF res)) ∧ va_F (va_A wc sz) st t
def yX {σ : Type} (ex : Int32 → String) (D : va_G) (wc : va_W) (wcF : Int32 × σ → va_W) (tys : List (ClassId × FieldType)) (res : Int32 × σ) (sz : Nat) : String → State → State → Prop := fun E st t =>
  ((res.1 ≠ 0 ∧ E = ex res.1 ∧ va_P D vwCl (wcF res) t.heap ∧ va_K D vwCl tys t ∧ va_D (va_A wc sz) (wcF res)) ∧ va_F (va_A wc sz) st t) ∧ st.heap.size < t.heap.size
def yC {σ : Type} (l : Launch) (y : MethodName) (ws : List Cond) (rm : Room) (ex : Int32 → String) (D : va_G) (sa : Nat → Nat) (av : List Value) (wc : va_W) (wcF : Int32 × σ → va_W) (tys : List (ClassId × FieldType)) (ovF : Int32 × σ → Option Value) (res : Int32 × σ) : Prop :=
  ∀ sz : Nat, vx_Met l y ws rm (yPre D sa av wc tys sz) (yPost D wc wcF tys ovF res sz) (yX ex D wc wcF tys res sz) 1 6 (va_A wc sz)
def yE {σ : Type} (ex : Int32 → String) (s : State) (args : Array Value) (below : List Frame) (meth : Method) (c : Code) (ret : Option FieldType) (D : va_G) (A : Nat → Prop) (wc : va_W) (wcF : Int32 × σ → va_W) (tys : List (ClassId × FieldType)) (ovF : Int32 × σ → Option Value) (res : Int32 × σ) (Q : State → Prop) : Prop :=
  Q = vx_MQ below (yPost D wc wcF tys ovF res s.heap.size) (yX ex D wc wcF tys res s.heap.size) args s 1 6 A ∧ A = va_A wc s.heap.size ∧ meth.sig.returnType = ret ∧ meth.locks = false ∧ (∀ x ∈ c.exceptionTable.toList, False)
theorem yGd_38 : ∀ w ∈ Cond.classLink RX5 34 yIAE :: Cond.initialized yIAE :: vx_atS RX5 38 yIAE yNames, vx_ot w = true := by decide +kernel
theorem yGd_49 : ∀ w ∈ Cond.classLink RX5 45 yISE :: Cond.initialized yISE :: vx_atS RX5 49 yISE yNames, vx_ot w = true := by decide +kernel
theorem yGd_116 : ∀ w ∈ Cond.classLink RX5 112 yIOE :: Cond.initialized yIOE :: vx_atS RX5 116 yIOE yNames, vx_ot w = true := by decide +kernel
theorem yNg_38 : ∀ w ∈ (vx_atS RX5 38 yIAE yNames).filter (fun w => !goodWord w), w ∈ yB := by decide +kernel
theorem yNg_49 : ∀ w ∈ (vx_atS RX5 49 yISE yNames).filter (fun w => !goodWord w), w ∈ yB := by decide +kernel
theorem yNg_116 : ∀ w ∈ (vx_atS RX5 116 yIOE yNames).filter (fun w => !goodWord w), w ∈ yB := by decide +kernel
section YW
variable {p : Program} {l : Launch} {e : Env} {R : Room} {s : State} {m : MethodId} {args : Array Value} {below : List Frame} {meth : Method} {c : Code} {H : Heap} {locs : List Loc} {cells slots : Nat} {Q : State → Prop}
theorem y_of {σ : Type} {y : MethodName} {ws ws' : List Cond} {rm : Room} {ex : Int32 → String} {D : va_G} {sa : Nat → Nat} {av : List Value} {wc : va_W} {wcF : Int32 × σ → va_W} {tys : List (ClassId × FieldType)} {ovF : Int32 × σ → Option Value} {res : Int32 × σ} {cc : ByteArray} {maxL : Nat} {ret : Option FieldType}
    (hy : plainName y.cls = true) (hw : ws = Cond.code y cc maxL ret :: ws') (hlen : (lg_sl av).length ≤ maxL)
    (body : ∀ (p : Program) (e : Env) (s : State) (m : MethodId) (args : Array Value) (below : List Frame) (meth : Method) (c : Code) (A : Nat → Prop) (Q : State → Prop) (ls : Array Slot),
      CallFix p m c cc maxL s args ws y.cls → xI D A s wc tys s.heap [] → yZ sa A s s.heap → yE ex s args below meth c ret D A wc wcF tys ovF res Q → lv_has ls maxL (lv_args 0 av) →
      W p l e (headSpec ws rm).room s m args below meth c s.heap [] 0 0 Q (F0 m 0 ls [])) : yC l y ws rm ex D sa av wc wcF tys ovF res := by
  intro sz
  refine vx_ofW (cc := cc) (maxL := maxL) (ret := ret) hy hw ?_
  intro p e s m args below meth c s₁ B hml ht hv
  obtain ⟨rfl, hsz, hP, hK, hD0, hN, hZ⟩ := hv
  have hts := atoms_spec (ws := ws) B.pre
  have hown : s.vm.findClass y.cls = some m.cls := findClass_of_methodNamed B.named
  subst hsz
  have hD := hD0.self (sz := s.heap.size)
  rw [lg_entry_eq]
  exact body p e s m _ below meth c (va_A wc s.heap.size) _ _ ⟨B.exec, B.bytes, hml, hown, hts⟩ ⟨hP, hD, hK, va_S.rf, fun q h => Or.inr h, hN⟩ hZ ⟨rfl, rfl, B.returns, B.notSynchronized, ht⟩ (lv_entry av hlen)
section YR
variable {σ : Type} {cc : ByteArray} {ret : Option FieldType} {ex : Int32 → String} {D : va_G} {A : Nat → Prop} {wc : va_W} {wcF : Int32 × σ → va_W} {tys : List (ClassId × FieldType)} {ovF : Int32 × σ → Option Value} {res : Int32 × σ} {ws : va_W} {nL : Nat} {Ts : List Cond} {own : String} {sa : Nat → Nat}
theorem y_ri (S : CallFix p m c cc nL s args Ts own) (E : yE ex s args below meth c ret D A wc wcF tys ovF res Q) {ty : FieldType} {v w : Int32} (hret : ret = some ty) (hn : narrow ty (.int v) = .int w) {t1 : Int32 × σ} (hf : some t1 = some res) (h0 : t1.1 = 0) (hv : ovF t1 = some (.int w)) (I : xI D A s ws tys H locs) (hw : ws = wcF t1) {pc : Nat} {ls : Array Slot} (hd : decode cc pc = .ok (.ireturn, 1)) :
    W p l e R s m args below meth c H locs 0 0 Q (F0 m pc ls [.int v]) := by
  cases hf
  subst hw
  obtain ⟨rfl, rfl, hr, hlocks, -⟩ := E
  obtain ⟨iP, iD, iK, iS, -, -⟩ := I
  refine vx_ret (W.widen (k := 1) (n := 6) (Nat.zero_le _) (Nat.zero_le _) ?_)
  exact x_nret S.1 S.2.1 (hr.trans hret) hn (fun t ht hW => ⟨⟨h0, by rw [hv], by rw [ht]; exact iP, va_K.moved hW.alike iK, iD⟩, iS.F ht⟩) iS.2.2 hd hlocks
theorem y_throw (S : CallFix p m c cc nL s args Ts own) (E : yE ex s args below meth c ret D A wc wcF tys ovF res Q) (Z : yZ sa A s s.heap) (hlf : l.stackTraces = false) {t1 : Int32 × σ} (hf : some t1 = some res) (h0 : t1.1 ≠ 0) (I : xI D A s ws tys H locs) (hw : ws = wcF t1) {ls : Array Slot} {lv : List (Nat × Value)} (hl : lv_has ls nL lv)
    {cls text : String} {ik is ic pc : Nat} {rest : List Value} (hex : ex t1.1 = cls) (hcls : Bundle.fit cls = true) (hnames : ∀ n ∈ yNames, Bundle.fit n = true)
    (hk : Cond.classLink own ik cls ∈ Ts) (hini : Cond.initialized cls ∈ Ts) (hown : own = RX5) (hstr : (is, text) ∈ yStr) (hg : ∀ w ∈ (vx_atS own ic cls yNames).filter goodWord, w ∈ Ts) (hng : ∀ w ∈ (vx_atS own ic cls yNames).filter (fun w => !goodWord w), w ∈ yB)
    (hgood : ∀ w ∈ Cond.classLink own ik cls :: Cond.initialized cls :: vx_atS own ic cls yNames, vx_ot w = true)
    (d0 : decode cc pc = .ok (.new ik, 3)) (d3 : decode cc (pc + 3) = .ok (.dup, 1)) (d4 : decode cc (pc + 4) = .ok (.ldc is, 2)) (d6 : decode cc (pc + 6) = .ok (.invokespecial ic, 3)) (d9 : decode cc (pc + 9) = .ok (.athrow, 1))
    (hRf : 5 < R.frames) (hRl : (rest.map fun v => v.category).sum + 82 ≤ R.locals) (hRc : 1 ≤ R.cells) (hRs : 6 ≤ R.slots) :
    W p l e R s m args below meth c H locs 0 0 Q (F0 m pc ls rest) := by
  cases hf
  subst hw
  obtain ⟨rfl, rfl, hr, hlocks, ht⟩ := E
  obtain ⟨iP, iD, iK, iS, iA, -⟩ := I
  obtain ⟨hx, hb, hml, ho, hts⟩ := S
  refine g_throwS (A := va_A wc s.heap.size) (names := yNames) (text := text) (sa := sa is) hx hb hlf ho hcls hnames (hts _ hk) (hts _ hini) (by rw [hown]; exact Z.2.2.1 _ hstr) (vx_hat (B := yB) (fun w hw => hts w (hg w hw)) hng (fun w hw => ?_)) hgood Z.2.2.2.1 Z.2.2.2.2.1 iS (hl.1.trans hml.symm) d0 d3 d4 d6 d9 (fun x hx => (ht x hx).elim) hRf hRl (by omega) (by omega) hlocks (fun t hal hsz hkeep => ?_) iS.2.2 (Nat.le_refl _) (Nat.le_refl _)
  · have h1 := Z.1 w hw
    have hot : w.onTables = true := by
      simp only [yB, List.mem_cons, List.not_mem_nil, or_false] at hw
      rcases hw with rfl | rfl | rfl | rfl | rfl | rfl <;> rfl
    exact va_Nw.use hot h1
  · refine ⟨⟨⟨h0, hex.symm, iP.kept (fun k q hkq => hkeep q.1 (iP k q hkq).lt), va_K.moved hal iK, iD⟩, Nat.le_trans iS.1 (Nat.le_of_lt hsz), fun q hq hA => ?_⟩, Nat.lt_of_le_of_lt iS.1 hsz⟩
    rw [hkeep q (Nat.lt_of_lt_of_le hq iS.1)]
    exact iS.2.1 q hq hA
end YR
end YW
end YC
