section KC
/-! constructors: from the bare object to a world that Bw names; mc cells of ms slots are made -/
def kPost (D : va_G) (wc : va_W) (Bw : va_W → Prop) (tys : List (ClassId × FieldType)) (sz : Nat) : Array Value → State → Outcome → State → Prop := fun _ st oc t =>
  (oc = .returned none ∧ ∃ w : va_W, Bw w ∧ va_P D vwCl w t.heap ∧ va_K D vwCl tys t ∧ va_D (va_A wc sz) w) ∧ va_F (va_A wc sz) st t
def kC (l : Launch) (y : MethodName) (ws : List Cond) (rm : Room) (D : va_G) (av : List Value) (wc : va_W) (Bw : va_W → Prop) (tys : List (ClassId × FieldType)) (mc ms : Nat) : Prop :=
  ∀ sz : Nat, Met l y ws rm (xPre D av wc tys sz) (kPost D wc Bw tys sz) mc ms (va_A wc sz)
def kE (s : State) (args : Array Value) (below : List Frame) (meth : Method) (D : va_G) (A : Nat → Prop) (wc : va_W) (Bw : va_W → Prop) (tys : List (ClassId × FieldType)) (mc ms : Nat) (Q : State → Prop) : Prop :=
  Q = MQ below (kPost D wc Bw tys s.heap.size) args s mc ms A ∧ A = va_A wc s.heap.size ∧ meth.sig.returnType = none ∧ meth.locks = false ∧ meth.name = "<init>"
section KW
variable {p : Program} {l : Launch} {e : Env} {R : Room} {s : State} {m : MethodId} {args : Array Value} {below : List Frame} {meth : Method} {c : Code} {H : Heap} {locs : List Loc} {cells slots : Nat} {Q : State → Prop}
theorem k_of {y : MethodName} {ws ws' : List Cond} {rm : Room} {D : va_G} {av : List Value} {wc : va_W} {Bw : va_W → Prop} {tys : List (ClassId × FieldType)} {cc : ByteArray} {maxL mc ms : Nat}
    (hy : plainName y.cls = true) (hw : ws = Cond.code y cc maxL none :: ws') (hlen : (lg_sl av).length ≤ maxL) (hyn : y.name = "<init>")
    (body : ∀ (p : Program) (e : Env) (s : State) (m : MethodId) (args : Array Value) (below : List Frame) (meth : Method) (c : Code) (A : Nat → Prop) (Q : State → Prop) (ls : Array Slot),
      CallFix p m c cc maxL s args ws y.cls → xI D A s wc tys s.heap [] → kE s args below meth D A wc Bw tys mc ms Q → lv_has ls maxL (lv_args 0 av) →
      W p l e (headSpec ws rm).room s m args below meth c s.heap [] 0 0 Q (F0 m 0 ls [])) : kC l y ws rm D av wc Bw tys mc ms := by
  intro sz
  refine Met.ofW (cc := cc) (maxL := maxL) (ret := none) hy hw ?_
  intro p e s m args below meth c s₁ B hml hv
  obtain ⟨rfl, hsz, hP, hK, hD0, hN⟩ := hv
  have hts := atoms_spec (ws := ws) B.pre
  have hown : s.vm.findClass y.cls = some m.cls := findClass_of_methodNamed B.named
  have hin : meth.name = "<init>" := ((name_of_methodNamed B.named B.method).1).trans hyn
  subst hsz
  have hD := hD0.self (sz := s.heap.size)
  rw [lg_entry_eq]
  exact body p e s m _ below meth c (va_A wc s.heap.size) _ _ ⟨B.exec, B.bytes, hml, hown, hts⟩ ⟨hP, hD, hK, va_S.rf, fun q h => Or.inr h, hN⟩ ⟨rfl, rfl, B.returns, B.notSynchronized, hin⟩ (lv_entry av hlen)
section KR
variable {cc : ByteArray} {D : va_G} {A : Nat → Prop} {wc : va_W} {Bw : va_W → Prop} {tys : List (ClassId × FieldType)} {ws ws' : va_W} {nL mc ms : Nat} {Ts : List Cond} {own : String} {pc : Nat} {ls : Array Slot} {rest : List Value} {a : Nat}
theorem k_ret (S : CallFix p m c cc nL s args Ts own) (E : kE s args below meth D A wc Bw tys mc ms Q) (I : xI D A s ws tys H locs) (hB : Bw ws) (hd : decode cc pc = .ok (.return_, 1)) :
    W p l e R s m args below meth c H locs mc ms Q (F0 m pc ls []) := by
  obtain ⟨rfl, rfl, hr, hlocks, -⟩ := E
  obtain ⟨iP, iD, iK, iS, -, -⟩ := I
  exact W.vret S.1 S.2.1 hr (fun t ht hW => ⟨⟨rfl, ws, hB, by rw [ht]; exact iP, va_K.moved hW.alike iK, iD⟩, iS.F ht⟩) iS.2.2 hd hlocks
theorem k_perm (I : xI D A s ws tys H locs) (perm : List Nat) (hp1 : perm.filterMap (fun i => ws[i]?) = ws') (hp2 : perm.map (fun i => ws[i]?) = ws'.map some) (hpn : va_nd perm = true) : xI D A s ws' tys H locs := by
  obtain ⟨iP, iD, iK, iS, iA, iN⟩ := I
  exact ⟨iP.sub perm hp1, iD.sub perm hpn hp2, iK, iS, iA, iN⟩
theorem x_newa (S : CallFix p m c cc nL s args Ts own) {atype : ArrayType} {ty : FieldType} (hty : newarray.typeOf atype = ty) (harr : Cond.arrayClass (newarray.typeOf atype) ∈ Ts) (I : xI D A s ws tys H locs) (t0 : Nat) {cA : ClassId} (ht : tys[t0]? = some (cA, ty))
    (hra : ∀ cB : ClassId, va_RA s cB ty = (s.vm.findClass ("[" ++ ty.toString) = some cB)) {n : Int32} {N : Nat} {a0 : vp_A} (ha : ∀ cB : ClassId, vp_cell cB a0 = arrV cB N (fun _ => defaultValue ty)) (hn : ¬ n < 0) (hN : n.toNatClampNeg = N) (hbytes : N * componentBytes ty ≤ 536870912) (hcells : cells + 1 ≤ R.cells) (hslots : slots + N ≤ R.slots) (hdg : decode cc pc = .ok (.newarray atype, 2))
    (kk : ∀ (q : Nat) (H1 : Heap), xI D A s (ws ++ [(q, .inl (cA, a0))]) tys H1 locs → W p l e R s m args below meth c H1 locs (cells + 1) (slots + N) Q (F0 m (pc + 2) ls (.ref q :: rest))) : W p l e R s m args below meth c H locs cells slots Q (F0 m pc ls (.int n :: rest)) := by
  obtain ⟨iP, iD, iK, iS, iA, iN⟩ := I
  refine va_newa (a0 := a0) S.1 S.2.1 (S.2.2.2.2 _ harr) hty iK iP iD iS iA ha hn hN hbytes hcells hslots hdg fun q cB H1 hK1 hP1 hD1 hS1 => ?_
  have h1 : va_RA s cB ty := (hK1.2 tys.length (cB, ty) (by simp)).2
  have h2 : va_RA s cA ty := (iK.2 t0 (cA, ty) ht).2
  rw [hra] at h1 h2
  have e9 : cA = cB := Option.some.inj (h2.symm.trans h1)
  subst e9
  exact kk q H1 ⟨hP1, hD1, iK, hS1, iA, iN⟩
theorem x_newo (S : CallFix p m c cc nL s args Ts own) {C : String} {T : u_T} {N ci index : Nat} (hin : ∀ w ∈ u_ws C T N, w ∈ Ts) (ty : Nat → FieldType) (hty : ∀ k, k < N → parseFieldDescriptor (T k).2.2.1 = some (ty k)) (hcl : Cond.classLink own index C ∈ Ts) (hinst : Cond.instantiable C N ∈ Ts) (hini : Cond.initialized C ∈ Ts)
    (I : xI D A s ws tys H locs) (hc : vwCl[ci]? = some (C, T, N)) {fs : List Value} (hfs : ∀ j, j < N → defaultValue (ty j) = vp_V fs j) (hcells : cells + 1 ≤ R.cells) (hslots : slots + N ≤ R.slots) (hdg : decode cc pc = .ok (.new index, 3))
    (kk : ∀ (q : Nat) (H1 : Heap), xI D A s (ws ++ [(q, .inr (ci, fs))]) tys H1 locs → W p l e R s m args below meth c H1 locs (cells + 1) (slots + N) Q (F0 m (pc + 3) ls (.ref q :: rest))) : W p l e R s m args below meth c H locs cells slots Q (F0 m pc ls rest) := by
  obtain ⟨iP, iD, iK, iS, iA, iN⟩ := I
  obtain ⟨hx, hb, -, hown, hts⟩ := S
  exact va_new hx hb hts hin ty hty hown (hts _ hcl) (hts _ hinst) (hts _ hini) iK iP iD iS iA hc hfs hcells hslots hdg fun q H1 hP1 hD1 hS1 => kk q H1 ⟨hP1, hD1, iK, hS1, iA, iN⟩
theorem x_putF (S : CallFix p m c cc nL s args Ts own) (hin2 : meth.name = "<init>") {C : String} {T : u_T} {N ci index : Nat} (hin : ∀ w ∈ u_ws C T N, w ∈ Ts) (ty0 : Nat → FieldType) (hty : ∀ k, k < N → parseFieldDescriptor (T k).2.2.1 = some (ty0 k)) (hnm : ∀ a, a < N → ∀ b, b < N → a ≠ b → (T a).2.1 ≠ (T b).2.1) (hc : vwCl[ci]? = some (C, T, N)) (I : xI D A s ws tys H locs) (q0 k : Nat) {fs : List Value} {x : Nat} (he : ws[q0]? = some (a, .inr (ci, fs))) (hk : k < N) (hlink : Cond.fieldLink own index (T k).1 (T k).2.1 (T k).2.2.1 ∈ Ts) (hfin : (T k).2.2.2 = true) (hdecl : (T k).1 = own) (hn : narrow (ty0 k) (.ref x) = .ref x) (hfit : fits (ty0 k) (.ref x) = true) (hl : k < fs.length) (hw : ws.set q0 (a, .inr (ci, fs.set k (.ref x))) = ws') (hdg : decode cc pc = .ok (.putfield index, 3))
    (kk : ∀ (H1 : Heap) (locs1 : List Loc), xI D A s ws' tys H1 locs1 → W p l e R s m args below meth c H1 locs1 cells slots Q (F0 m (pc + 3) ls rest)) : W p l e R s m args below meth c H locs cells slots Q (F0 m pc ls (.ref x :: .ref a :: rest)) := by
  obtain ⟨hx, hb, -, hown, hts⟩ := S
  obtain ⟨iP, iD, iK, iS, iA, iN⟩ := I
  subst hw
  exact va_putF (D := D) (ci := ci) (v := .ref x) (ty := ty0 k) (C := C) (T := T) (N := N) (ref := (T k).1) hx hb hts hin ty0 hty hnm hown iK iP iD iS q0 he hc k hk (hts _ hlink) (fun _ h => h) hfin hin2 hdecl (hty k hk) hn hfit hl hdg (fun H1 locs1 hP hD hS => kk H1 locs1 ⟨hP, hD, iK, hS, iA, iN⟩)
/-- behind a constructor's run -/
theorem k_back {wcC : va_W} {BwC : va_W → Prop} {Aa : Array Value} {st0 : List Value} (I : xI D A s ws tys H locs) (isT : List Nat) {tysC : List (ClassId × FieldType)}
    (isC isR : List Nat) (hC1 : isC.map (fun i => ws[i]?) = wcC.map some) (hR1 : isR.map (fun i => ws[i]?) = (isR.filterMap (fun i => ws[i]?)).map some) (hnR : va_nd isR = true) (hdis : ∀ i ∈ isR, i ∉ isC)
    (hr : va_Run p l e R s m args below meth c H locs cells slots mc ms (F0 m pc ls st0) rest (kPost D wcC BwC tysC H.size Aa) (va_A wcC H.size))
    (kk : ∀ (H1 : Heap) (locs1 : List Loc) (w : va_W), BwC w → xI D A s (isR.filterMap (fun i => ws[i]?) ++ w) tys H1 locs1 → W p l e R s m args below meth c H1 locs1 (cells + mc) (slots + ms) Q (F0 m (pc + 3) ls rest)) : W p l e R s m args below meth c H locs cells slots Q (F0 m pc ls st0) := by
  obtain ⟨iP, iD, iK, iS, iA, iN⟩ := I
  have hF := va_free (wc := wcC) iD iS iA isC hC1
  intro T hT X
  obtain ⟨v, st₀, t, T', L, h0, X', hL, e1, e2, ⟨⟨hv, w, hB, hP1, hK1, hD1⟩, hz, hk⟩, st⟩ := hr T hT X
  cases hv
  rw [h0] at hz hk
  rw [← e1] at hP1 hk hz
  obtain ⟨jP, jD⟩ := va_join (wr := isR.filterMap (fun i => ws[i]?)) iP iD isC isR hC1 hR1 hnR hdis (fun q h1 h2 => hk q h1 h2) hF hP1 hD1
  obtain ⟨t2, a1, b1⟩ := kk T'.heap (locs ++ L) w hB ⟨jP, jD, iK,
    ⟨Nat.le_trans iS.1 hz, fun q h1 h2 => by rw [hk q (Nat.lt_of_lt_of_le h1 iS.1) (fun z => h2 (hF q z))]; exact iS.2.1 q h1 h2, fun q hq => by
      rcases List.mem_append.mp hq with h | h
      · exact iS.2.2 q h
      · exact hF _ (hL q h)⟩, iA, iN⟩ T' rfl X'
  exact ⟨t2, st t2 a1, b1⟩
variable {y : MethodName} {bytes : ByteArray} {maxL index : Nat} {wsY ws1 : List Cond} {rm : Room} {b : Addr} {wcC : va_W} {BwC : va_W → Prop} {host : String} {lv : List (Nat × Value)}
theorem k_pre {av : List Value} {tysC : List (ClassId × FieldType)} (I : xI D A s ws tys H locs) (isT : List Nat) (hT : isT.filterMap (fun i => tys[i]?) = tysC) (isC : List Nat) (hC1 : isC.map (fun i => ws[i]?) = wcC.map some) (hnC : va_nd isC = true) : ∀ U : State, U.heap = H → s.WarmedH U.vm → xPre D av wcC tysC H.size av.toArray U := by
  obtain ⟨iP, iD, iK, iS, iA, iN⟩ := I
  exact x_pre (tys := tysC) ⟨iP, iD, iK.sub isT hT, iS, iA, iN⟩ isC hC1 hnC
/-- a nest mate's private constructor -/
theorem k_cIN (S : CallFix p m c cc nL s args Ts own) (I : xI D A s ws tys H locs) (hC : kC l y wsY rm D [.ref b] wcC BwC tys mc ms) (hG : GoodIn Ts wsY) (hw : wsY = Cond.code y bytes maxL none :: ws1) (hrc : rm.cells = mc) (hrs : rm.slots = ms) (hlk : Cond.methodLinkNest own index y host ∈ xNests) (hini : Cond.initialized y.cls ∈ Ts) (hst : Cond.instanceMethod y ∈ Ts) (hyn : y.name = "<init>")
    (hd : y.cls ≠ "java/lang/invoke/MethodHandle" ∧ y.cls ≠ "java/lang/invoke/VarHandle" ∧ (parseMethodDescriptor y.desc).map (fun d => d.parameters.length) = some 0) (hR : rm.frames + 1 ≤ R.frames ∧ 8 + (maxL + 11) + rm.locals ≤ R.locals)
    (isC isR : List Nat) (hC1 : isC.map (fun i => ws[i]?) = wcC.map some) (hnC : va_nd isC = true) (hR1 : isR.map (fun i => ws[i]?) = (isR.filterMap (fun i => ws[i]?)).map some) (hnR : va_nd isR = true) (hdis : ∀ i ∈ isR, i ∉ isC)
    (hl : lv_has ls nL lv) (hroom : (rest.map fun v => v.category).sum ≤ 8) (hcs : cells + mc ≤ R.cells ∧ slots + ms ≤ R.slots) (hdg : decode cc pc = .ok (.invokespecial index, 3))
    (kk : ∀ (H1 : Heap) (locs1 : List Loc) (w : va_W), BwC w → xI D A s (isR.filterMap (fun i => ws[i]?) ++ w) tys H1 locs1 → W p l e R s m args below meth c H1 locs1 (cells + mc) (slots + ms) Q (F0 m (pc + 3) ls rest)) :
    W p l e R s m args below meth c H locs cells slots Q (F0 m pc ls (.ref b :: rest)) := by
  have hts := S.2.2.2.2
  have cw : va_CN R s args own index y host bytes maxL none wsY rm mc ms 0 := va_cnB 0 hts hG hw hrc hrs (I.2.2.2.2.2 _ hlk) (hts _ hini) hd hR
  exact k_back I (List.range tys.length) isC isR hC1 hR1 hnR hdis (va_runIN (As := []) (rest := rest) S (hC H.size) ⟨cw, hyn, hts _ hst⟩ ⟨x_blind D _ wcC tys H.size, x_pre I isC hC1 hnC⟩ (g := F0 m pc ls (.ref b :: rest)) rfl rfl hl.1 rfl (lv_room hroom) hdg hcs) kk
/-- a constructor that all may call -/
theorem k_cI {tysC : List (ClassId × FieldType)} (S : CallFix p m c cc nL s args Ts own) (I : xI D A s ws tys H locs) (isT : List Nat) (hT : isT.filterMap (fun i => tys[i]?) = tysC) (hC : kC l y wsY rm D [.ref b] wcC BwC tysC mc ms) (hG : GoodIn Ts wsY) (hw : wsY = Cond.code y bytes maxL none :: ws1) (hrc : rm.cells = mc) (hrs : rm.slots = ms) (hlk : Cond.methodLink own index y ∈ Ts) (hini : Cond.initialized y.cls ∈ Ts) (hst : Cond.instanceMethod y ∈ Ts) (hyn : y.name = "<init>")
    (hd : y.cls ≠ "java/lang/invoke/MethodHandle" ∧ y.cls ≠ "java/lang/invoke/VarHandle" ∧ (parseMethodDescriptor y.desc).map (fun d => d.parameters.length) = some 0) (hR : rm.frames + 1 ≤ R.frames ∧ 8 + (maxL + 11) + rm.locals ≤ R.locals)
    (isC isR : List Nat) (hC1 : isC.map (fun i => ws[i]?) = wcC.map some) (hnC : va_nd isC = true) (hR1 : isR.map (fun i => ws[i]?) = (isR.filterMap (fun i => ws[i]?)).map some) (hnR : va_nd isR = true) (hdis : ∀ i ∈ isR, i ∉ isC)
    (hl : lv_has ls nL lv) (hroom : (rest.map fun v => v.category).sum ≤ 8) (hcs : cells + mc ≤ R.cells ∧ slots + ms ≤ R.slots) (hdg : decode cc pc = .ok (.invokespecial index, 3))
    (kk : ∀ (H1 : Heap) (locs1 : List Loc) (w : va_W), BwC w → xI D A s (isR.filterMap (fun i => ws[i]?) ++ w) tys H1 locs1 → W p l e R s m args below meth c H1 locs1 (cells + mc) (slots + ms) Q (F0 m (pc + 3) ls rest)) :
    W p l e R s m args below meth c H locs cells slots Q (F0 m pc ls (.ref b :: rest)) := by
  have hts := S.2.2.2.2
  have cw : CallB R s args own index y bytes maxL none wsY rm mc ms 0 ∧ y.name = "<init>" ∧ (Cond.instanceMethod y).before args s = true := cwI 0 hts hG hw hrc hrs (hts _ hini) (hts _ hlk) (hts _ hst) hyn hd hR
  exact k_back I isT isC isR hC1 hR1 hnR hdis (va_runI (As := []) (rest := rest) S (hC H.size) cw ⟨x_blind D _ wcC tysC H.size, k_pre I isT hT isC hC1 hnC⟩ (g := F0 m pc ls (.ref b :: rest)) rfl rfl hl.1 rfl (lv_room hroom) hdg hcs) kk
end KR
end KW
theorem k_raI (s : State) (c : ClassId) : va_RA s c .int = (s.vm.findClass ("[" ++ (FieldType.int).toString) = some c) := rfl
theorem k_raC (s : State) (c : ClassId) : va_RA s c .char = (s.vm.findClass ("[" ++ (FieldType.char).toString) = some c) := rfl
theorem k_raZ (s : State) (c : ClassId) : va_RA s c .boolean = (s.vm.findClass ("[" ++ (FieldType.boolean).toString) = some c) := rfl
theorem k_raL (s : State) (c : ClassId) : va_RA s c .long = (s.vm.findClass ("[" ++ (FieldType.long).toString) = some c) := rfl
theorem k_aI (N : Nat) (c : ClassId) : vp_cell c (N, .inl (fun _ => 0)) = arrV c N (fun _ => defaultValue .int) := rfl
theorem k_aC (N : Nat) (c : ClassId) : vp_cell c (N, .inl (fun _ => 0)) = arrV c N (fun _ => defaultValue .char) := rfl
theorem k_aZ (N : Nat) (c : ClassId) : vp_cell c (N, .inl (fun _ => 0)) = arrV c N (fun _ => defaultValue .boolean) := rfl
theorem k_aL (N : Nat) (c : ClassId) : vp_cell c (N, .inr (.inl (fun _ => 0))) = arrV c N (fun _ => defaultValue .long) := rfl
end KC
