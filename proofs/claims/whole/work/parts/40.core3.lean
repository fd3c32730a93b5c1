section WC
/-! the law's own helpers: a call of the class that may throw, in a table of handlers; the row of one long takes the answer -/
abbrev xTL (cI cC cZ cL : ClassId) : List (ClassId × FieldType) := [(cI, .int), (cC, .char), (cZ, .boolean), (cL, .long)]
def wC {σ : Type} (l : Launch) (y : MethodName) (ws : List Cond) (rm : Room) (D : va_G) (sa : Nat → Nat) (av : List Value) (wc : va_W) (wcF : Int32 × σ → va_W) (tys : List (ClassId × FieldType)) (res : Int32 × σ) : Prop :=
  ∀ sz : Nat, Met l y ws rm (yPre D sa av wc tys sz) (xPost D wc wcF tys (fun t => some (.int t.1)) res sz) 1 6 (va_A wc sz)
def wE {σ : Type} (s : State) (args : Array Value) (below : List Frame) (meth : Method) (c : Code) (hh : List (Nat × Nat × Nat × Nat)) (D : va_G) (A : Nat → Prop) (wc : va_W) (wcF : Int32 × σ → va_W) (tys : List (ClassId × FieldType)) (res : Int32 × σ) (Q : State → Prop) : Prop :=
  Q = MQ below (xPost D wc wcF tys (fun t => some (.int t.1)) res s.heap.size) args s 1 6 A ∧ A = va_A wc s.heap.size ∧ meth.sig.returnType = some .int ∧ meth.locks = false ∧ c.exceptionTable.toList = tableOf hh
theorem y_blind (D : va_G) (sa : Nat → Nat) (av : List Value) (wc : va_W) (tys : List (ClassId × FieldType)) (sz : Nat) : FrameBlind (yPre D sa av wc tys sz) := fun a U g mk q => by
  obtain ⟨q0, q1, qP, qK, qD, qN, qZ⟩ := q
  exact ⟨q0, q1, qP, va_K.moved (u := U) (U := U.calling g mk a) (Vm.Alike.refl U.vm) qK, qD, xN_same (u := U) (U := U.calling g mk a) rfl qN, yZ_same (u := U) (U := U.calling g mk a) rfl qZ⟩
section WW
variable {p : Program} {l : Launch} {e : Env} {R : Room} {s : State} {m : MethodId} {args : Array Value} {below : List Frame} {meth : Method} {c : Code} {H : Heap} {locs : List Loc} {cells slots : Nat} {Q : State → Prop}
theorem w_of {σ : Type} {y : MethodName} {ws ws' : List Cond} {rm : Room} {D : va_G} {sa : Nat → Nat} {av : List Value} {wc : va_W} {wcF : Int32 × σ → va_W} {tys : List (ClassId × FieldType)} {res : Int32 × σ} {cc : ByteArray} {maxL : Nat} {hh : List (Nat × Nat × Nat × Nat)}
    (hy : plainName y.cls = true) (hw : ws = Cond.codeWith y cc maxL (some .int) hh :: ws') (hlen : (lg_sl av).length ≤ maxL)
    (body : ∀ (p : Program) (e : Env) (s : State) (m : MethodId) (args : Array Value) (below : List Frame) (meth : Method) (c : Code) (A : Nat → Prop) (Q : State → Prop) (ls : Array Slot),
      CallFix p m c cc maxL s args ws y.cls → xI D A s wc tys s.heap [] → yZ sa A s s.heap → wE s args below meth c hh D A wc wcF tys res Q → lv_has ls maxL (lv_args 0 av) →
      W p l e (headSpec ws rm).room s m args below meth c s.heap [] 0 0 Q (F0 m 0 ls [])) : wC l y ws rm D sa av wc wcF tys res := by
  intro sz
  refine MetFree.of_bodyS (code := cc) (maxLocals := maxL) (ret := some .int) hy ?_ ?_
  · intro args s m h hn
    obtain ⟨m9, meth, c, hn9, h1, h2, h3, h4, -, h5, h6, -⟩ := Cond.codeWith_spec (atoms_spec (ws := ws) h _ (by rw [hw]; exact List.mem_cons_self))
    cases hn.symm.trans hn9
    exact ⟨meth, c, h1, h2, h3, h4, h5, h6⟩
  · intro p e s m args below meth c s₁ B hml hv _
    have hh0 : s₁.heap = s.heap := by rw [B.state]; rfl
    have hts := atoms_spec (ws := ws) B.pre
    have htab := vx_table (x := y) B (hts _ (by rw [hw]; exact List.mem_cons_self))
    obtain ⟨rfl, hsz, hP, hK, hD0, hN, hZ⟩ := hv
    have hown : s.vm.findClass y.cls = some m.cls := findClass_of_methodNamed B.named
    subst hsz
    have hD := hD0.self (sz := s.heap.size)
    have w := body p e s m _ below meth c (va_A wc s.heap.size) _ _ ⟨B.exec, B.bytes, hml, hown, hts⟩ ⟨hP, hD, hK, va_S.rf, fun q h => Or.inr h, hN⟩ hZ ⟨rfl, rfl, B.returns, B.notSynchronized, htab⟩ (lv_entry av hlen)
    rw [← lg_entry_eq] at w
    obtain ⟨t, a1, o, b1, b2, b3⟩ := w s₁ hh0 (Stand.of_body B)
    exact ⟨t, o, a1, b1, b2, ⟨b3.1, b3.2⟩⟩
section WR
variable {σ : Type} {cc : ByteArray} {hh : List (Nat × Nat × Nat × Nat)} {D : va_G} {A : Nat → Prop} {wc : va_W} {wcF : Int32 × σ → va_W} {tys : List (ClassId × FieldType)} {res : Int32 × σ} {ws : va_W} {nL : Nat} {Ts : List Cond} {own : String} {sa : Nat → Nat}
theorem w_ri (S : CallFix p m c cc nL s args Ts own) (E : wE s args below meth c hh D A wc wcF tys res Q) {v : Int32} (hv : res.1 = v) (I : xI D A s ws tys H locs) (hw : ws = wcF res) {pc : Nat} {ls : Array Slot} (hd : decode cc pc = .ok (.ireturn, 1)) :
    W p l e R s m args below meth c H locs (0 + 1) (0 + 6) Q (F0 m pc ls [.int v]) := by
  subst hw
  obtain ⟨rfl, rfl, hr, hlocks, -⟩ := E
  obtain ⟨iP, iD, iK, iS, -, -⟩ := I
  exact x_nret S.1 S.2.1 hr rfl (fun t ht hW => ⟨⟨by rw [← hv], by rw [ht]; exact iP, va_K.moved hW.alike iK, iD⟩, iS.F ht⟩) iS.2.2 hd hlocks
theorem x_last {ws' : va_W} {pc : Nat} {ls : Array Slot} {rest : List Value} {a : Nat} (S : CallFix p m c cc nL s args Ts own) (I : xI D A s ws tys H locs) (q0 t0 : Nat) {cA : ClassId} {n : Nat} {f : Nat → Int64} (ha : ws[q0]? = some (a, .inl (cA, n, .inr (.inl f)))) (ht : tys[t0]? = some (cA, .long)) {i : Int32} {x : Int64} (hin : vp_in i n) (hw : ws.set q0 (a, .inl (cA, n, .inr (.inl (vp_updL f i.toNatClampNeg x)))) = ws') (hdg : decode cc pc = .ok (.lastore, 1))
    (kk : ∀ (H1 : Heap) (locs1 : List Loc), xI D A s ws' tys H1 locs1 → W p l e R s m args below meth c H1 locs1 cells slots Q (F0 m (pc + 1) ls rest)) : W p l e R s m args below meth c H locs cells slots Q (F0 m pc ls (.long x :: .int i :: .ref a :: rest)) := by
  obtain ⟨iP, iD, iK, iS, iA, iN⟩ := I
  subst hw
  exact va_last S.1 S.2.1 iK iP iD iS q0 t0 ha ht hin hdg (fun H1 locs1 hP hD hS => kk H1 locs1 ⟨hP, hD, iK, hS, iA, iN⟩)
variable {τ : Type} {y : MethodName} {bytes : ByteArray} {maxL n index pc : Nat} {ret : Option FieldType} {wsY : List Cond} {rm : Room} {C : String} {b : Addr} {As rest : List Value} {ls : Array Slot} {ws' wcC : va_W} {wcG : Int32 × τ → va_W} {tysC : List (ClassId × FieldType)} {ovF : Int32 × τ → Option Value} {resC : Int32 × τ} {ex : Int32 → String} {lv : List (Nat × Value)}
/-- a call of a method that answers or throws -/
theorem w_cV (S : CallFix p m c cc nL s args Ts own) (I : xI D A s ws tys H locs) (Z : yZ sa A s s.heap) (isT : List Nat) (hT : isT.filterMap (fun i => tys[i]?) = tysC)
    (hC : yC l y wsY rm ex D sa (.ref b :: As) wcC wcG tysC ovF resC) (cw : CallW R s args own C index y bytes maxL ret wsY rm 1 6 n)
    (q0 ci : Nat) {q : vw_C} {fs : List Value} (hci : vwCl[ci]? = some q) (hqC : q.1 = C) (hq0 : ws[q0]? = some (b, .inr (ci, fs)))
    (isC isR perm : List Nat) (hC1 : isC.map (fun i => ws[i]?) = wcC.map some) (hnC : va_nd isC = true) (hR1 : isR.map (fun i => ws[i]?) = (isR.filterMap (fun i => ws[i]?)).map some) (hnR : va_nd isR = true) (hdis : ∀ i ∈ isR, i ∉ isC)
    (hp1 : perm.filterMap (fun i => (isR.filterMap (fun i => ws[i]?) ++ wcG resC)[i]?) = ws') (hp2 : perm.map (fun i => (isR.filterMap (fun i => ws[i]?) ++ wcG resC)[i]?) = ws'.map some) (hpn : va_nd perm = true)
    (hl : lv_has ls nL lv) (hn : As.length = n) (hroom : (rest.map fun v => v.category).sum ≤ 8) (hcs : cells + 1 ≤ R.cells ∧ slots + 6 ≤ R.slots) (hdg : decode cc pc = .ok (.invokevirtual index, 3))
    (kk : resC.1 = 0 → ∀ (H1 : Heap) (locs1 : List Loc), xI D A s ws' tys H1 locs1 → W p l e R s m args below meth c H1 locs1 (cells + 1) (slots + 6) Q (F0 m (pc + 3) ls ((ovF resC).toList ++ rest)))
    (kx : resC.1 ≠ 0 → ∀ (H1 : Heap) (locs1 : List Loc) (q9 : Addr) (ce : Cell), xI D A s ws' tys H1 locs1 → H1[q9]? = some ce → ce.vm = .none → s.vm.findClass (ex resC.1) = some ce.cls → vx_W p l e R s m args below meth c H1 locs1 (cells + 1) (slots + 6) Q (F0 m pc ls rest) q9) :
    W p l e R s m args below meth c H locs cells slots Q (F0 m pc ls (As.reverse ++ .ref b :: rest)) := by
  obtain ⟨iP, iD, iK, iS, iA, iN⟩ := id I
  have hF := va_free (wc := wcC) iD iS iA isC hC1
  have hpre : ∀ U : State, U.heap = H → s.WarmedH U.vm → yPre D sa (.ref b :: As) wcC tysC H.size (Value.ref b :: As).toArray U := by
    intro U hU hW
    refine ⟨rfl, by rw [hU], ?_, va_K.moved hW.alike (iK.sub isT hT), (iD.sub isC hnC hC1).weaken (fun _ _ _ _ => trivial), xN_warm hW iN, by rw [hU]; exact yZ_go hW (fun a h1 h2 => iS.2.1 a h1 h2) hF Z⟩
    rw [hU]
    refine iP.sub isC ?_
    have h := congrArg (fun z => z.filterMap id) hC1
    simpa [List.filterMap_map, Function.comp_def] using h
  have hr : vx_Run p l e R s m args below meth c H locs cells slots 1 6 (F0 m pc ls (As.reverse ++ .ref b :: rest)) rest (yPost D wcC wcG tysC ovF resC H.size (Value.ref b :: As).toArray) (yX ex D wcC wcG tysC resC H.size) (va_A wcC H.size) :=
    vx_runV (As := As) (rest := rest) S (hC H.size) cw ⟨y_blind D sa _ wcC tysC H.size, by rw [← hqC]; exact va_recv iK iP hci hq0, hpre⟩ rfl hn hl.1 rfl (lv_room hroom) hdg hcs
  have hgo : ∀ (H1 : Heap) (L : List Loc), va_P D vwCl (wcG resC) H1 → va_D (va_A wcC H.size) (wcG resC) → H.size ≤ H1.size → (∀ q : Nat, q < H.size → ¬ va_A wcC H.size q → H1[q]? = H[q]?) → (∀ q ∈ L, va_A wcC H.size q.base) → xI D A s ws' tys H1 (locs ++ L) := by
    intro H1 L hP1 hD1 hz hk hL
    obtain ⟨jP, jD⟩ := va_join (wr := isR.filterMap (fun i => ws[i]?)) iP iD isC isR hC1 hR1 hnR hdis (fun q h1 h2 => hk q h1 h2) hF hP1 hD1
    exact ⟨jP.sub perm hp1, jD.sub perm hpn hp2, iK,
      ⟨Nat.le_trans iS.1 hz, fun q h1 h2 => by rw [hk q (Nat.lt_of_lt_of_le h1 iS.1) (fun z => h2 (hF q z))]; exact iS.2.1 q h1 h2, fun q hq => by
        rcases List.mem_append.mp hq with h | h
        · exact iS.2.2 q h
        · exact hF _ (hL q h)⟩, iA, iN⟩
  intro T hT9 X
  rcases hr T hT9 X with ⟨v, st₀, t, T', L, h0, X', hL, e1, e2, ⟨⟨h00, hv, hP1, hK1, hD1⟩, hz, hk⟩, st⟩ | ⟨q9, st₀, t, T', L, E9, ce, h0, X', hL, e1, e2, ⟨⟨h00, hE9, hP1, hK1, hD1⟩, hz, hk⟩, hce, hcv, hcl, st⟩
  · cases hv
    rw [h0] at hz hk
    rw [← e1] at hP1 hk hz
    obtain ⟨t2, a1, b1⟩ := kk h00 T'.heap (locs ++ L) (hgo _ L hP1 hD1 hz hk hL) T' rfl X'
    exact ⟨t2, st t2 a1, b1⟩
  · subst hE9
    rw [h0] at hz hk
    rw [← e1] at hP1 hk hz hce
    obtain ⟨t2, a1, b1⟩ := kx h00 T'.heap (locs ++ L) q9 ce (hgo _ L hP1 hD1 hz hk hL) hce hcv hcl T' rfl X'
    exact ⟨t2, st.trans a1, b1⟩
/-- a handler: the rows ahead of it name other classes -/
theorem w_catch {nm E9 : String} {ce : Cell} {q9 : Addr} (S : CallFix p m c cc nL s args Ts own) (Z : yZ sa A s s.heap) (htab : c.exceptionTable.toList = tableOf hh) (pre : List ExceptionTableEntry) (x : ExceptionTableEntry) (suf : List ExceptionTableEntry) (hsplit : tableOf hh = pre ++ x :: suf)
    (hpass : ∀ z ∈ pre, z.catchType ≠ 0 ∧ ∃ n9 : String, Cond.classLink own z.catchType n9 ∈ Ts ∧ va_Nc E9 n9 s) (hx : covers x pc = true) (h0 : x.catchType ≠ 0) (hlink : Cond.classLink own x.catchType nm ∈ Ts) (hE : E9 = nm) (hcast : Cond.castable nm nm ∈ yB)
    (hcell : H[q9]? = some ce) (hv : ce.vm = .none) (hcl : s.vm.findClass E9 = some ce.cls)
    (kk : W p l e R s m args below meth c H locs cells slots Q (F0 m x.handlerPc ls [.ref q9])) : vx_W p l e R s m args below meth c H locs cells slots Q (F0 m pc ls rest) q9 := by
  obtain ⟨hx9, hb, hml, ho, hts⟩ := S
  subst hE
  exact vx_catch ho pre x suf (htab.trans hsplit) (fun z hz => by
    obtain ⟨h1, n9, h2, h3⟩ := hpass z hz
    exact Or.inr ⟨h1, n9, hts _ h2, h3⟩) hx h0 (hts _ hlink) (va_Nw.use rfl (Z.1 _ hcast)) hcell hv hcl kk
end WR
end WW
end WC
