section XC
abbrev xF : Type := Nat → Int32
abbrev xG : Type := Nat → Nat → Int32
/-! the pure side: an index in its row, a divisor that is not 0, a call -/
def x_ld {γ : Type} (i : Int32) (n : Nat) (o : Option γ) : Option γ := if i < 0 ∨ n ≤ i.toNatClampNeg then none else o
theorem x_ldE {γ : Type} {i : Int32} {n : Nat} {o : Option γ} {r : γ} (h : x_ld i n o = some r) : vp_in i n ∧ o = some r := by
  unfold x_ld at h
  by_cases hc : i < 0 ∨ n ≤ i.toNatClampNeg
  · rw [if_pos hc] at h; cases h
  · rw [if_neg hc] at h; exact ⟨hc, h⟩
theorem x_ldI {γ : Type} {i : Int32} {n : Nat} {o : Option γ} (h : vp_in i n) : x_ld i n o = o := if_neg h
def x_dv {γ : Type} (y : Int32) (o : Option γ) : Option γ := if y = 0 then none else o
theorem x_dvE {γ : Type} {y : Int32} {o : Option γ} {r : γ} (h : x_dv y o = some r) : ¬ y = 0 ∧ o = some r := by
  unfold x_dv at h
  by_cases hc : y = 0
  · rw [if_pos hc] at h; cases h
  · rw [if_neg hc] at h; exact ⟨hc, h⟩
theorem x_dvI {γ : Type} {y : Int32} {o : Option γ} (h : ¬ y = 0) : x_dv y o = o := if_neg h
theorem x_ifT {γ : Type} {c : Prop} [Decidable c] {a b : Option γ} {r : γ} (h : (if c then a else b) = some r) (hc : c) : a = some r := (if_pos hc).symm.trans h
theorem x_ifF {γ : Type} {c : Prop} [Decidable c] {a b : Option γ} {r : γ} (h : (if c then a else b) = some r) (hc : ¬ c) : b = some r := (if_neg hc).symm.trans h
abbrev x_rem (x y : Int32) : Int32 := x - x / y * y
abbrev x_shl (x y : Int32) : Int32 := x <<< (y &&& 31)
abbrev x_shr (x y : Int32) : Int32 := x >>> (y &&& 31)
abbrev x_ush (x y : Int32) : Int32 := (x.toUInt32 >>> (y.toUInt32 &&& Int32.toUInt32 31)).toInt32
abbrev x_max (x y : Int32) : Int32 := if x < y then y else x
abbrev x_min (x y : Int32) : Int32 := if y < x then y else x
abbrev x_zn (x : Int32) : Int32 := vp_nar .boolean x
abbrev x_cn (x : Int32) : Int32 := vp_nar .char x
theorem x_n0 : narrow .boolean (.int 0) = .int 0 := by decide
theorem x_n1 : narrow .boolean (.int 1) = .int 1 := by decide
def x_b1 {α γ : Type} (o : Option (α)) (f : α → Option γ) : Option γ := match o with
  | none => none
  | some p => f p
theorem x_b1E {α γ : Type} {o : Option (α)} {f : α → Option γ} {r : γ} (h : x_b1 o f = some r) : ∃ a0, o = some a0 ∧ f a0 = some r := by
  cases o with
  | none => cases h
  | some p => exact ⟨p, rfl, h⟩
theorem x_b1I {α γ : Type} {o : Option (α)} {f : α → Option γ} {a0 : _} (h : o = some a0) : x_b1 o f = f a0 := by
  subst h; rfl
def x_b2 {α β γ : Type} (o : Option (α × β)) (f : α → β → Option γ) : Option γ := match o with
  | none => none
  | some p => f p.1 p.2
theorem x_b2E {α β γ : Type} {o : Option (α × β)} {f : α → β → Option γ} {r : γ} (h : x_b2 o f = some r) : ∃ a0 a1, o = some (a0, a1) ∧ f a0 a1 = some r := by
  cases o with
  | none => cases h
  | some p => exact ⟨p.1, p.2, rfl, h⟩
theorem x_b2I {α β γ : Type} {o : Option (α × β)} {f : α → β → Option γ} {a0 : α} {a1 : β} (h : o = some (a0, a1)) : x_b2 o f = f a0 a1 := by
  subst h; rfl
def x_b3 {α β δ γ : Type} (o : Option (α × β × δ)) (f : α → β → δ → Option γ) : Option γ := match o with
  | none => none
  | some p => f p.1 p.2.1 p.2.2
theorem x_b3E {α β δ γ : Type} {o : Option (α × β × δ)} {f : α → β → δ → Option γ} {r : γ} (h : x_b3 o f = some r) : ∃ a0 a1 a2, o = some (a0, a1, a2) ∧ f a0 a1 a2 = some r := by
  cases o with
  | none => cases h
  | some p => exact ⟨p.1, p.2.1, p.2.2, rfl, h⟩
theorem x_b3I {α β δ γ : Type} {o : Option (α × β × δ)} {f : α → β → δ → Option γ} {a0 : α} {a1 : β} {a2 : δ} (h : o = some (a0, a1, a2)) : x_b3 o f = f a0 a1 a2 := by
  subst h; rfl
def x_b4 {α β δ ε γ : Type} (o : Option (α × β × δ × ε)) (f : α → β → δ → ε → Option γ) : Option γ := match o with
  | none => none
  | some p => f p.1 p.2.1 p.2.2.1 p.2.2.2
theorem x_b4E {α β δ ε γ : Type} {o : Option (α × β × δ × ε)} {f : α → β → δ → ε → Option γ} {r : γ} (h : x_b4 o f = some r) : ∃ a0 a1 a2 a3, o = some (a0, a1, a2, a3) ∧ f a0 a1 a2 a3 = some r := by
  cases o with
  | none => cases h
  | some p => exact ⟨p.1, p.2.1, p.2.2.1, p.2.2.2, rfl, h⟩
theorem x_b4I {α β δ ε γ : Type} {o : Option (α × β × δ × ε)} {f : α → β → δ → ε → Option γ} {a0 : α} {a1 : β} {a2 : δ} {a3 : ε} (h : o = some (a0, a1, a2, a3)) : x_b4 o f = f a0 a1 a2 a3 := by
  subst h; rfl
def x_b5 {α β δ ε ζ γ : Type} (o : Option (α × β × δ × ε × ζ)) (f : α → β → δ → ε → ζ → Option γ) : Option γ := match o with
  | none => none
  | some p => f p.1 p.2.1 p.2.2.1 p.2.2.2.1 p.2.2.2.2
theorem x_b5E {α β δ ε ζ γ : Type} {o : Option (α × β × δ × ε × ζ)} {f : α → β → δ → ε → ζ → Option γ} {r : γ} (h : x_b5 o f = some r) : ∃ a0 a1 a2 a3 a4, o = some (a0, a1, a2, a3, a4) ∧ f a0 a1 a2 a3 a4 = some r := by
  cases o with
  | none => cases h
  | some p => exact ⟨p.1, p.2.1, p.2.2.1, p.2.2.2.1, p.2.2.2.2, rfl, h⟩
theorem x_b5I {α β δ ε ζ γ : Type} {o : Option (α × β × δ × ε × ζ)} {f : α → β → δ → ε → ζ → Option γ} {a0 : α} {a1 : β} {a2 : δ} {a3 : ε} {a4 : ζ} (h : o = some (a0, a1, a2, a3, a4)) : x_b5 o f = f a0 a1 a2 a3 a4 := by
  subst h; rfl
def x_b6 {α β δ ε ζ η γ : Type} (o : Option (α × β × δ × ε × ζ × η)) (f : α → β → δ → ε → ζ → η → Option γ) : Option γ := match o with
  | none => none
  | some p => f p.1 p.2.1 p.2.2.1 p.2.2.2.1 p.2.2.2.2.1 p.2.2.2.2.2
theorem x_b6E {α β δ ε ζ η γ : Type} {o : Option (α × β × δ × ε × ζ × η)} {f : α → β → δ → ε → ζ → η → Option γ} {r : γ} (h : x_b6 o f = some r) : ∃ a0 a1 a2 a3 a4 a5, o = some (a0, a1, a2, a3, a4, a5) ∧ f a0 a1 a2 a3 a4 a5 = some r := by
  cases o with
  | none => cases h
  | some p => exact ⟨p.1, p.2.1, p.2.2.1, p.2.2.2.1, p.2.2.2.2.1, p.2.2.2.2.2, rfl, h⟩
theorem x_b6I {α β δ ε ζ η γ : Type} {o : Option (α × β × δ × ε × ζ × η)} {f : α → β → δ → ε → ζ → η → Option γ} {a0 : α} {a1 : β} {a2 : δ} {a3 : ε} {a4 : ζ} {a5 : η} (h : o = some (a0, a1, a2, a3, a4, a5)) : x_b6 o f = f a0 a1 a2 a3 a4 a5 := by
  subst h; rfl
def x_b7 {α β δ ε ζ η θ γ : Type} (o : Option (α × β × δ × ε × ζ × η × θ)) (f : α → β → δ → ε → ζ → η → θ → Option γ) : Option γ := match o with
  | none => none
  | some p => f p.1 p.2.1 p.2.2.1 p.2.2.2.1 p.2.2.2.2.1 p.2.2.2.2.2.1 p.2.2.2.2.2.2
theorem x_b7E {α β δ ε ζ η θ γ : Type} {o : Option (α × β × δ × ε × ζ × η × θ)} {f : α → β → δ → ε → ζ → η → θ → Option γ} {r : γ} (h : x_b7 o f = some r) : ∃ a0 a1 a2 a3 a4 a5 a6, o = some (a0, a1, a2, a3, a4, a5, a6) ∧ f a0 a1 a2 a3 a4 a5 a6 = some r := by
  cases o with
  | none => cases h
  | some p => exact ⟨p.1, p.2.1, p.2.2.1, p.2.2.2.1, p.2.2.2.2.1, p.2.2.2.2.2.1, p.2.2.2.2.2.2, rfl, h⟩
theorem x_b7I {α β δ ε ζ η θ γ : Type} {o : Option (α × β × δ × ε × ζ × η × θ)} {f : α → β → δ → ε → ζ → η → θ → Option γ} {a0 : α} {a1 : β} {a2 : δ} {a3 : ε} {a4 : ζ} {a5 : η} {a6 : θ} (h : o = some (a0, a1, a2, a3, a4, a5, a6)) : x_b7 o f = f a0 a1 a2 a3 a4 a5 a6 := by
  subst h; rfl
def x_b8 {α β δ ε ζ η θ κ γ : Type} (o : Option (α × β × δ × ε × ζ × η × θ × κ)) (f : α → β → δ → ε → ζ → η → θ → κ → Option γ) : Option γ := match o with
  | none => none
  | some p => f p.1 p.2.1 p.2.2.1 p.2.2.2.1 p.2.2.2.2.1 p.2.2.2.2.2.1 p.2.2.2.2.2.2.1 p.2.2.2.2.2.2.2
theorem x_b8E {α β δ ε ζ η θ κ γ : Type} {o : Option (α × β × δ × ε × ζ × η × θ × κ)} {f : α → β → δ → ε → ζ → η → θ → κ → Option γ} {r : γ} (h : x_b8 o f = some r) : ∃ a0 a1 a2 a3 a4 a5 a6 a7, o = some (a0, a1, a2, a3, a4, a5, a6, a7) ∧ f a0 a1 a2 a3 a4 a5 a6 a7 = some r := by
  cases o with
  | none => cases h
  | some p => exact ⟨p.1, p.2.1, p.2.2.1, p.2.2.2.1, p.2.2.2.2.1, p.2.2.2.2.2.1, p.2.2.2.2.2.2.1, p.2.2.2.2.2.2.2, rfl, h⟩
theorem x_b8I {α β δ ε ζ η θ κ γ : Type} {o : Option (α × β × δ × ε × ζ × η × θ × κ)} {f : α → β → δ → ε → ζ → η → θ → κ → Option γ} {a0 : α} {a1 : β} {a2 : δ} {a3 : ε} {a4 : ζ} {a5 : η} {a6 : θ} {a7 : κ} (h : o = some (a0, a1, a2, a3, a4, a5, a6, a7)) : x_b8 o f = f a0 a1 a2 a3 a4 a5 a6 a7 := by
  subst h; rfl
/-! private members of nest mates: what the start says of them -/
def xNests : List Cond := [Jvm.Cond.fieldLinkNest "ReversalCourt" (64 : Nat) "ReversalCourt$Page" "formula" "LReversalCourt$Formula;" "ReversalCourt",
  Jvm.Cond.fieldLinkNest "ReversalCourt" (89 : Nat) "ReversalCourt$Formula" "quantifiers" "I" "ReversalCourt",
  Jvm.Cond.fieldLinkNest "ReversalCourt$Page" (103 : Nat) "ReversalCourt$Formula" "seconds" "[I" "ReversalCourt",
  Jvm.Cond.fieldLinkNest "ReversalCourt$Page" (106 : Nat) "ReversalCourt$Formula" "firsts" "[I" "ReversalCourt",
  Jvm.Cond.fieldLinkNest "ReversalCourt$Page" (83 : Nat) "ReversalCourt$Formula" "variables" "[I" "ReversalCourt",
  Jvm.Cond.fieldLinkNest "ReversalCourt$Page" (86 : Nat) "ReversalCourt$Formula" "kinds" "[C" "ReversalCourt",
  Jvm.Cond.fieldLinkNest "ReversalCourt$Page" (93 : Nat) "ReversalCourt$Formula" "limits" "[I" "ReversalCourt",
  Jvm.Cond.methodLinkNest "ReversalCourt" (18 : Nat) ({ cls := "ReversalCourt$Zoo", name := "<init>", desc := "()V" } : Jvm.MethodName) "ReversalCourt",
  Jvm.Cond.methodLinkNest "ReversalCourt" (25 : Nat) ({ cls := "ReversalCourt$Problems", name := "<init>", desc := "()V" } : Jvm.MethodName) "ReversalCourt",
  Jvm.Cond.methodLinkNest "ReversalCourt" (9 : Nat) ({ cls := "ReversalCourt$Page", name := "<init>", desc := "()V" } : Jvm.MethodName) "ReversalCourt",
  Jvm.Cond.methodLinkNest "ReversalCourt$Game" (9 : Nat) ({ cls := "ReversalCourt", name := "isBetween", desc := "(III)Z" } : Jvm.MethodName) "ReversalCourt",
  Jvm.Cond.methodLinkNest "ReversalCourt$Page" (11 : Nat) ({ cls := "ReversalCourt$Formula", name := "<init>", desc := "()V" } : Jvm.MethodName) "ReversalCourt",
  Jvm.Cond.methodLinkNest "ReversalCourt$Problems" (34 : Nat) ({ cls := "ReversalCourt", name := "isBetween", desc := "(III)Z" } : Jvm.MethodName) "ReversalCourt",
  Jvm.Cond.methodLinkNest "ReversalCourt$Problems" (42 : Nat) ({ cls := "ReversalCourt", name := "isBelow", desc := "(II)Z" } : Jvm.MethodName) "ReversalCourt",
  Jvm.Cond.methodLinkNest "ReversalCourt$Zoo" (40 : Nat) ({ cls := "ReversalCourt", name := "isBelow", desc := "(II)Z" } : Jvm.MethodName) "ReversalCourt"]
def xN (U : State) : Prop := ∀ w ∈ xNests, va_Nw w U
theorem xN_warm {s U : State} (hW : s.WarmedH U.vm) (h : xN s) : xN U := by
  intro w hw
  have h1 := h w hw
  simp only [xNests, List.mem_cons, List.not_mem_nil, or_false] at hw
  rcases hw with rfl | rfl | rfl | rfl | rfl | rfl | rfl | rfl | rfl | rfl | rfl | rfl | rfl | rfl | rfl <;> first | exact va_Nw.warmF hW h1 | exact va_Nw.warmM hW h1
theorem xN_same {u U : State} (hvm : u.vm = U.vm) (h : xN u) : xN U := by
  intro w hw
  have h1 := h w hw
  simp only [xNests, List.mem_cons, List.not_mem_nil, or_false] at hw
  rcases hw with rfl | rfl | rfl | rfl | rfl | rfl | rfl | rfl | rfl | rfl | rfl | rfl | rfl | rfl | rfl <;> exact va_Nw.same rfl hvm h1
/-! the worlds, the contracts -/
abbrev xT (cI cC cZ : ClassId) : List (ClassId × FieldType) := [(cI, .int), (cC, .char), (cZ, .boolean)]
def xI (D : va_G) (A : Nat → Prop) (s : State) (ws : va_W) (tys : List (ClassId × FieldType)) (H : Heap) (locs : List Loc) : Prop :=
  va_P D vwCl ws H ∧ va_D A ws ∧ va_K D vwCl tys s ∧ va_S A s.heap H locs ∧ (∀ q : Nat, s.heap.size ≤ q → A q) ∧ xN s
def xPre (D : va_G) (av : List Value) (wc : va_W) (tys : List (ClassId × FieldType)) (sz : Nat) : Array Value → State → Prop :=
  va_Pc av (fun U => U.heap.size = sz ∧ va_P D vwCl wc U.heap ∧ va_K D vwCl tys U ∧ va_D (fun _ => True) wc ∧ xN U)
def xPost {τ : Type} (D : va_G) (wc : va_W) (wcF : τ → va_W) (tys : List (ClassId × FieldType)) (ovF : τ → Option Value) (res : τ) (sz : Nat) : Array Value → State → Outcome → State → Prop := fun _ st oc t =>
  (oc = .returned (ovF res) ∧ va_P D vwCl (wcF res) t.heap ∧ va_K D vwCl tys t ∧ va_D (va_A wc sz) (wcF res)) ∧ va_F (va_A wc sz) st t
/-- a contract: from the world wc, with the arguments av, the method answers ovF res and leaves the world wcF res; it makes nothing -/
def xC {τ : Type} (l : Launch) (y : MethodName) (ws : List Cond) (rm : Room) (D : va_G) (av : List Value) (wc : va_W) (wcF : τ → va_W) (tys : List (ClassId × FieldType)) (ovF : τ → Option Value) (res : τ) : Prop :=
  ∀ sz : Nat, Met l y ws rm (xPre D av wc tys sz) (xPost D wc wcF tys ovF res sz) 0 0 (va_A wc sz)
/-- how a body ends -/
def xE {τ : Type} (p : Program) (l : Launch) (e : Env) (R : Room) (s : State) (m : MethodId) (args : Array Value) (below : List Frame) (meth : Method) (c : Code) (cc : ByteArray) (ret : Option FieldType) (D : va_G) (A : Nat → Prop) (wcF : τ → va_W) (tys : List (ClassId × FieldType)) (ovF : τ → Option Value) (res : τ) (Q : State → Prop) : Prop :=
  (∀ (ty : FieldType) (H : Heap) (locs : List Loc) (ls : Array Slot) (pc : Nat) (v w : Int32), ret = some ty → narrow ty (.int v) = .int w → ovF res = some (.int w) → xI D A s (wcF res) tys H locs → decode cc pc = .ok (.ireturn, 1) → W p l e R s m args below meth c H locs 0 0 Q (F0 m pc ls [.int v])) ∧
  (∀ (H : Heap) (locs : List Loc) (ls : Array Slot) (pc : Nat), ret = none → ovF res = none → xI D A s (wcF res) tys H locs → decode cc pc = .ok (.return_, 1) → W p l e R s m args below meth c H locs 0 0 Q (F0 m pc ls []))
section XW
variable {p : Program} {l : Launch} {e : Env} {R : Room} {s : State} {m : MethodId} {args : Array Value} {below : List Frame} {meth : Method} {c : Code} {H : Heap} {locs : List Loc} {cells slots : Nat} {Q : State → Prop}
theorem x_nret {cc : ByteArray} {Qc : Array Value → State → Outcome → State → Prop} {free : Addr → Prop} {v w : Int32} {ty : FieldType} (hexec : p.tables.exec = Jvm.exec) (hb : c.code = cc) (hr : meth.sig.returnType = some ty) (hn : narrow ty (.int v) = .int w)
    (hq : ∀ t : State, t.heap = H → s.WarmedH t.vm → Qc args s (.returned (some (.int w))) t) (hf : ∀ q ∈ locs, free q.base)
    {pc : Nat} {ls : Array Slot} (hdg : decode cc pc = .ok (.ireturn, 1)) (hlocks : meth.locks = false) : W p l e R s m args below meth c H locs cells slots (MQ below Qc args s cells slots free) (F0 m pc ls [.int v]) := by
  intro T hT X
  obtain ⟨fs, hret, hrun, hended, hW, hframe⟩ := X.leave (v := some (.int w)) (hlocks := hlocks) (fun h => by rw [hr] at h; cases h)
  have hmeth' : T.vm.method? m = some meth := X.method'
  refine ⟨T.setFrames fs, ?_, .returned (some (.int w)), hrun, hended, hq _ hT hW, locs, ⟨⟨_, rfl⟩, hW, hframe⟩, hf⟩
  jvm_step X.here [X.here.top, hexec, hb, hdg, hmeth', hr, hn]
  (try refine ⟨rfl, ?_⟩); (try refine ⟨rfl, ?_⟩)
  first | (intro acts; rw [hret _ acts rfl rfl rfl]) | rw [hret _ _ rfl rfl rfl]
  exact Steps.refl _
theorem x_of {τ : Type} {y : MethodName} {ws ws' : List Cond} {rm : Room} {D : va_G} {av : List Value} {wc : va_W} {wcF : τ → va_W} {tys : List (ClassId × FieldType)} {ovF : τ → Option Value} {res : τ} {cc : ByteArray} {maxL : Nat} {ret : Option FieldType}
    (hy : plainName y.cls = true) (hw : ws = Cond.code y cc maxL ret :: ws') (hlen : (lg_sl av).length ≤ maxL)
    (body : ∀ (p : Program) (e : Env) (s : State) (m : MethodId) (args : Array Value) (below : List Frame) (meth : Method) (c : Code) (A : Nat → Prop) (Q : State → Prop) (ls : Array Slot),
      CallFix p m c cc maxL s args ws y.cls → xI D A s wc tys s.heap [] → xE p l e (headSpec ws rm).room s m args below meth c cc ret D A wcF tys ovF res Q → lv_has ls maxL (lv_args 0 av) →
      W p l e (headSpec ws rm).room s m args below meth c s.heap [] 0 0 Q (F0 m 0 ls [])) : xC l y ws rm D av wc wcF tys ovF res := by
  intro sz
  refine Met.ofW (cc := cc) (maxL := maxL) (ret := ret) hy hw ?_
  intro p e s m args below meth c s₁ B hml hv
  obtain ⟨rfl, hsz, hP, hK, hD0, hN⟩ := hv
  have hx := B.exec
  have hb := B.bytes
  have hr := B.returns
  have hlocks := B.notSynchronized
  have hts := atoms_spec (ws := ws) B.pre
  have hown : s.vm.findClass y.cls = some m.cls := findClass_of_methodNamed B.named
  subst hsz
  have hD := hD0.self (sz := s.heap.size)
  rw [lg_entry_eq]
  refine body p e s m _ below meth c (va_A wc s.heap.size) _ _ ⟨hx, hb, hml, hown, hts⟩ ⟨hP, hD, hK, va_S.rf, fun q h => Or.inr h, hN⟩ ⟨?_, ?_⟩ (lv_entry av hlen)
  · intro ty H locs ls pc v w hret hn ho hI hd
    obtain ⟨iP, iD, iK, iS, -, -⟩ := hI
    refine x_nret hx hb (hr.trans hret) hn (fun t ht hW => ⟨⟨by rw [ho], by rw [ht]; exact iP, va_K.moved hW.alike iK, iD⟩, iS.F ht⟩) iS.2.2 hd hlocks
  · intro H locs ls pc hret ho hI hd
    obtain ⟨iP, iD, iK, iS, -, -⟩ := hI
    exact W.vret hx hb (hr.trans hret) (fun t ht hW => ⟨⟨by rw [ho], by rw [ht]; exact iP, va_K.moved hW.alike iK, iD⟩, iS.F ht⟩) iS.2.2 hd hlocks
section XR
variable {τ : Type} {cc : ByteArray} {ret : Option FieldType} {D : va_G} {A : Nat → Prop} {wcF : τ → va_W} {tys : List (ClassId × FieldType)} {ovF : τ → Option Value} {res : τ} {ws : va_W}
/-- an int's, a boolean's, a char's return: w is v as the type holds it -/
theorem x_ri (E : xE p l e R s m args below meth c cc ret D A wcF tys ovF res Q) {ty : FieldType} {v w : Int32} (hret : ret = some ty) (hn : narrow ty (.int v) = .int w) {t1 : τ} (hf : some t1 = some res) (hv : ovF t1 = some (.int w)) (I : xI D A s ws tys H locs) (hw : ws = wcF t1) {pc : Nat} {ls : Array Slot} (hd : decode cc pc = .ok (.ireturn, 1)) :
    W p l e R s m args below meth c H locs 0 0 Q (F0 m pc ls [.int v]) := by
  cases hf
  subst hw
  exact E.1 ty H locs ls pc v w hret hn hv I hd
theorem x_rv (E : xE p l e R s m args below meth c cc ret D A wcF tys ovF res Q) (hret : ret = none) {t1 : τ} (hf : some t1 = some res) (hv : ovF t1 = none) (I : xI D A s ws tys H locs) (hw : ws = wcF t1) {pc : Nat} {ls : Array Slot} (hd : decode cc pc = .ok (.return_, 1)) :
    W p l e R s m args below meth c H locs 0 0 Q (F0 m pc ls []) := by
  cases hf
  subst hw
  exact E.2 H locs ls pc hret hv I hd
end XR
section XG
variable {cc : ByteArray} {nL : Nat} {Ts : List Cond} {own : String} {D : va_G} {A : Nat → Prop} {tys : List (ClassId × FieldType)} {ws ws' : va_W} {pc : Nat} {ls : Array Slot} {rest : List Value} {a : Nat}
theorem x_get (S : CallFix p m c cc nL s args Ts own) {C : String} {T : u_T} {N ci index : Nat} (hin : ∀ w ∈ u_ws C T N, w ∈ Ts) (hc : vwCl[ci]? = some (C, T, N)) (I : xI D A s ws tys H locs) (q0 k : Nat) {fs : List Value} {v : Value} (he : ws[q0]? = some (a, .inr (ci, fs))) (hk : k < N) (hlink : Cond.fieldLink own index (T k).1 (T k).2.1 (T k).2.2.1 ∈ Ts) (hv : fs[k]? = some v) (hdg : decode cc pc = .ok (.getfield index, 3))
    (kk : W p l e R s m args below meth c H locs cells slots Q (F0 m (pc + 3) ls (v :: rest))) : W p l e R s m args below meth c H locs cells slots Q (F0 m pc ls (.ref a :: rest)) := by
  obtain ⟨hx, hb, -, hown, hts⟩ := S
  obtain ⟨iP, iD, iK, iS, -, -⟩ := I
  exact va_get (D := D) (ci := ci) (v := v) (C := C) (T := T) (N := N) (ref := (T k).1) hx hb hts hin hown iK iP q0 he hc k hk (hts _ hlink) (fun _ h => h) hv hdg kk
theorem x_getN (S : CallFix p m c cc nL s args Ts own) {C host : String} {T : u_T} {N ci index : Nat} (hin : ∀ w ∈ u_ws C T N, w ∈ Ts) (hc : vwCl[ci]? = some (C, T, N)) (I : xI D A s ws tys H locs) (q0 k : Nat) {fs : List Value} {v : Value} (he : ws[q0]? = some (a, .inr (ci, fs))) (hk : k < N) (hlink : Cond.fieldLinkNest own index (T k).1 (T k).2.1 (T k).2.2.1 host ∈ xNests) (hv : fs[k]? = some v) (hdg : decode cc pc = .ok (.getfield index, 3))
    (kk : W p l e R s m args below meth c H locs cells slots Q (F0 m (pc + 3) ls (v :: rest))) : W p l e R s m args below meth c H locs cells slots Q (F0 m pc ls (.ref a :: rest)) := by
  obtain ⟨hx, hb, -, hown, hts⟩ := S
  obtain ⟨iP, iD, iK, iS, -, iN⟩ := I
  exact va_getN (D := D) (ci := ci) (v := v) (C := C) (T := T) (N := N) (ref := (T k).1) hx hb hts hin hown iK iP q0 he hc k hk (va_Nw.use rfl (iN _ hlink)) (fun _ h => h) hv hdg kk
theorem x_put (S : CallFix p m c cc nL s args Ts own) {C : String} {T : u_T} {N ci index : Nat} (hin : ∀ w ∈ u_ws C T N, w ∈ Ts) (ty0 : Nat → FieldType) (hty : ∀ k, k < N → parseFieldDescriptor (T k).2.2.1 = some (ty0 k)) (hnm : ∀ a, a < N → ∀ b, b < N → a ≠ b → (T a).2.1 ≠ (T b).2.1) (hc : vwCl[ci]? = some (C, T, N)) (I : xI D A s ws tys H locs) (q0 k : Nat) {fs : List Value} {x : Int32} (he : ws[q0]? = some (a, .inr (ci, fs))) (hk : k < N) (hlink : Cond.fieldLink own index (T k).1 (T k).2.1 (T k).2.2.1 ∈ Ts) (hfin : (T k).2.2.2 = false) (hd : ty0 k = .int) (hl : k < fs.length) (hw : ws.set q0 (a, .inr (ci, fs.set k (.int x))) = ws') (hdg : decode cc pc = .ok (.putfield index, 3))
    (kk : ∀ (H1 : Heap) (locs1 : List Loc), xI D A s ws' tys H1 locs1 → W p l e R s m args below meth c H1 locs1 cells slots Q (F0 m (pc + 3) ls rest)) : W p l e R s m args below meth c H locs cells slots Q (F0 m pc ls (.int x :: .ref a :: rest)) := by
  obtain ⟨hx, hb, -, hown, hts⟩ := S
  obtain ⟨iP, iD, iK, iS, iA, iN⟩ := I
  subst hw
  exact va_put (D := D) (ci := ci) (v := .int x) (ty := .int) (C := C) (T := T) (N := N) (ref := (T k).1) hx hb hts hin ty0 hty hnm hown iK iP iD iS q0 he hc k hk (hts _ hlink) (fun _ h => h) hfin (by rw [hty k hk, hd]) rfl rfl hl hdg (fun H1 locs1 hP hD hS => kk H1 locs1 ⟨hP, hD, iK, hS, iA, iN⟩)
theorem x_iald (S : CallFix p m c cc nL s args Ts own) (I : xI D A s ws tys H locs) (q0 t0 : Nat) {cA : ClassId} {n : Nat} {f : Nat → Int32} (ha : ws[q0]? = some (a, .inl (cA, n, .inl f))) (ht : tys[t0]? = some (cA, .int)) {i : Int32} (hin : vp_in i n) (hdg : decode cc pc = .ok (.iaload, 1))
    (kk : W p l e R s m args below meth c H locs cells slots Q (F0 m (pc + 1) ls (.int (f i.toNatClampNeg) :: rest))) : W p l e R s m args below meth c H locs cells slots Q (F0 m pc ls (.int i :: .ref a :: rest)) :=
  va_iald S.1 S.2.1 I.2.2.1 I.1 q0 t0 ha ht hin hdg kk
theorem x_zald (S : CallFix p m c cc nL s args Ts own) (I : xI D A s ws tys H locs) (q0 t0 : Nat) {cA : ClassId} {n : Nat} {f : Nat → Int32} (ha : ws[q0]? = some (a, .inl (cA, n, .inl f))) (ht : tys[t0]? = some (cA, .boolean)) {i : Int32} (hin : vp_in i n) (hdg : decode cc pc = .ok (.baload, 1))
    (kk : W p l e R s m args below meth c H locs cells slots Q (F0 m (pc + 1) ls (.int (f i.toNatClampNeg) :: rest))) : W p l e R s m args below meth c H locs cells slots Q (F0 m pc ls (.int i :: .ref a :: rest)) :=
  va_zald S.1 S.2.1 I.2.2.1 I.1 q0 t0 ha ht hin hdg kk
theorem x_cald (S : CallFix p m c cc nL s args Ts own) (I : xI D A s ws tys H locs) (q0 t0 : Nat) {cA : ClassId} {n : Nat} {f : Nat → Int32} (ha : ws[q0]? = some (a, .inl (cA, n, .inl f))) (ht : tys[t0]? = some (cA, .char)) {i : Int32} (hin : vp_in i n) (hdg : decode cc pc = .ok (.caload, 1))
    (kk : W p l e R s m args below meth c H locs cells slots Q (F0 m (pc + 1) ls (.int (f i.toNatClampNeg) :: rest))) : W p l e R s m args below meth c H locs cells slots Q (F0 m pc ls (.int i :: .ref a :: rest)) :=
  va_cald S.1 S.2.1 I.2.2.1 I.1 q0 t0 ha ht hin hdg kk
theorem x_iast (S : CallFix p m c cc nL s args Ts own) (I : xI D A s ws tys H locs) (q0 t0 : Nat) {cA : ClassId} {n : Nat} {f : Nat → Int32} (ha : ws[q0]? = some (a, .inl (cA, n, .inl f))) (ht : tys[t0]? = some (cA, .int)) {i x : Int32} (hin : vp_in i n) (hw : ws.set q0 (a, .inl (cA, n, .inl (upd f i.toNatClampNeg x))) = ws') (hdg : decode cc pc = .ok (.iastore, 1))
    (kk : ∀ (H1 : Heap) (locs1 : List Loc), xI D A s ws' tys H1 locs1 → W p l e R s m args below meth c H1 locs1 cells slots Q (F0 m (pc + 1) ls rest)) : W p l e R s m args below meth c H locs cells slots Q (F0 m pc ls (.int x :: .int i :: .ref a :: rest)) := by
  obtain ⟨iP, iD, iK, iS, iA, iN⟩ := I
  subst hw
  exact va_iast S.1 S.2.1 iK iP iD iS q0 t0 ha ht hin hdg (fun H1 locs1 hP hD hS => kk H1 locs1 ⟨hP, hD, iK, hS, iA, iN⟩)
theorem x_zast (S : CallFix p m c cc nL s args Ts own) (I : xI D A s ws tys H locs) (q0 t0 : Nat) {cA : ClassId} {n : Nat} {f : Nat → Int32} (ha : ws[q0]? = some (a, .inl (cA, n, .inl f))) (ht : tys[t0]? = some (cA, .boolean)) {i x : Int32} (hin : vp_in i n) (hw : ws.set q0 (a, .inl (cA, n, .inl (upd f i.toNatClampNeg (vp_nar .boolean x)))) = ws') (hdg : decode cc pc = .ok (.bastore, 1))
    (kk : ∀ (H1 : Heap) (locs1 : List Loc), xI D A s ws' tys H1 locs1 → W p l e R s m args below meth c H1 locs1 cells slots Q (F0 m (pc + 1) ls rest)) : W p l e R s m args below meth c H locs cells slots Q (F0 m pc ls (.int x :: .int i :: .ref a :: rest)) := by
  obtain ⟨iP, iD, iK, iS, iA, iN⟩ := I
  subst hw
  exact va_zast S.1 S.2.1 iK iP iD iS q0 t0 ha ht hin hdg (fun H1 locs1 hP hD hS => kk H1 locs1 ⟨hP, hD, iK, hS, iA, iN⟩)
theorem x_cast (S : CallFix p m c cc nL s args Ts own) (I : xI D A s ws tys H locs) (q0 t0 : Nat) {cA : ClassId} {n : Nat} {f : Nat → Int32} (ha : ws[q0]? = some (a, .inl (cA, n, .inl f))) (ht : tys[t0]? = some (cA, .char)) {i x : Int32} (hin : vp_in i n) (hw : ws.set q0 (a, .inl (cA, n, .inl (upd f i.toNatClampNeg (vp_nar .char x)))) = ws') (hdg : decode cc pc = .ok (.castore, 1))
    (kk : ∀ (H1 : Heap) (locs1 : List Loc), xI D A s ws' tys H1 locs1 → W p l e R s m args below meth c H1 locs1 cells slots Q (F0 m (pc + 1) ls rest)) : W p l e R s m args below meth c H locs cells slots Q (F0 m pc ls (.int x :: .int i :: .ref a :: rest)) := by
  obtain ⟨iP, iD, iK, iS, iA, iN⟩ := I
  subst hw
  exact va_cast S.1 S.2.1 iK iP iD iS q0 t0 ha ht hin hdg (fun H1 locs1 hP hD hS => kk H1 locs1 ⟨hP, hD, iK, hS, iA, iN⟩)
/-- behind a run of a callee: the caller's other cells and the callee's, in the caller's order -/
theorem x_back {τ : Type} {wc : va_W} {wcF : τ → va_W} {ovF : τ → Option Value} {res : τ} {Aa : Array Value} {st0 : List Value} (I : xI D A s ws tys H locs)
    (isC isR perm : List Nat) (hC1 : isC.map (fun i => ws[i]?) = wc.map some) (hR1 : isR.map (fun i => ws[i]?) = (isR.filterMap (fun i => ws[i]?)).map some) (hnR : va_nd isR = true) (hdis : ∀ i ∈ isR, i ∉ isC)
    (hp1 : perm.filterMap (fun i => (isR.filterMap (fun i => ws[i]?) ++ wcF res)[i]?) = ws') (hp2 : perm.map (fun i => (isR.filterMap (fun i => ws[i]?) ++ wcF res)[i]?) = ws'.map some) (hpn : va_nd perm = true)
    (hr : va_Run p l e R s m args below meth c H locs cells slots 0 0 (F0 m pc ls st0) rest (xPost D wc wcF tys ovF res H.size Aa) (va_A wc H.size))
    (kk : ∀ (H1 : Heap) (locs1 : List Loc), xI D A s ws' tys H1 locs1 → W p l e R s m args below meth c H1 locs1 cells slots Q (F0 m (pc + 3) ls ((ovF res).toList ++ rest))) : W p l e R s m args below meth c H locs cells slots Q (F0 m pc ls st0) := by
  obtain ⟨iP, iD, iK, iS, iA, iN⟩ := I
  have hF := va_free (wc := wc) iD iS iA isC hC1
  intro T hT X
  obtain ⟨v, st₀, t, T', L, h0, X', hL, e1, e2, ⟨⟨hv, hP1, hK1, hD1⟩, hz, hk⟩, st⟩ := hr T hT X
  cases hv
  rw [h0] at hz hk
  rw [← e1] at hP1 hk hz
  obtain ⟨jP, jD⟩ := va_join (wr := isR.filterMap (fun i => ws[i]?)) iP iD isC isR hC1 hR1 hnR hdis (fun q h1 h2 => hk q h1 h2) hF hP1 hD1
  obtain ⟨t2, a1, b1⟩ := kk T'.heap (locs ++ L) ⟨jP.sub perm hp1, jD.sub perm hpn hp2, iK,
    ⟨Nat.le_trans iS.1 hz, fun q h1 h2 => by rw [hk q (Nat.lt_of_lt_of_le h1 iS.1) (fun z => h2 (hF q z))]; exact iS.2.1 q h1 h2, fun q hq => by
      rcases List.mem_append.mp hq with h | h
      · exact iS.2.2 q h
      · exact hF _ (hL q h)⟩, iA, iN⟩ T' rfl X'
  exact ⟨t2, st t2 a1, b1⟩
theorem x_blind (D : va_G) (av : List Value) (wc : va_W) (tys : List (ClassId × FieldType)) (sz : Nat) : FrameBlind (xPre D av wc tys sz) := fun a U g mk q => by
  obtain ⟨q0, q1, qP, qK, qD, qN⟩ := q
  exact ⟨q0, q1, qP, va_K.moved (u := U) (U := U.calling g mk a) (Vm.Alike.refl U.vm) qK, qD, xN_same (u := U) (U := U.calling g mk a) rfl qN⟩
variable {y : MethodName} {bytes : ByteArray} {maxL n index : Nat} {ret : Option FieldType} {wsY : List Cond} {rm : Room} {C : String} {b : Addr} {As : List Value}
theorem x_pre {wc : va_W} {av : List Value} (I : xI D A s ws tys H locs) (isC : List Nat) (hC1 : isC.map (fun i => ws[i]?) = wc.map some) (hnC : va_nd isC = true) : ∀ U : State, U.heap = H → s.WarmedH U.vm → xPre D av wc tys H.size av.toArray U := by
  obtain ⟨iP, iD, iK, iS, iA, iN⟩ := I
  intro U hU hW
  refine ⟨rfl, by rw [hU], ?_, va_K.moved hW.alike iK, (iD.sub isC hnC hC1).weaken (fun _ _ _ _ => trivial), xN_warm hW iN⟩
  rw [hU]
  refine iP.sub isC ?_
  have h := congrArg (fun z => z.filterMap id) hC1
  simpa [List.filterMap_map, Function.comp_def] using h
theorem x_cV {τ : Type} {wc : va_W} {wcF : τ → va_W} {ovF : τ → Option Value} {res : τ} {lv : List (Nat × Value)} {st' : List Value} (S : CallFix p m c cc nL s args Ts own) (I : xI D A s ws tys H locs)
    (hC : xC l y wsY rm D (.ref b :: As) wc wcF tys ovF res) (cw : CallW R s args own C index y bytes maxL ret wsY rm 0 0 n)
    (q0 ci : Nat) {q : vw_C} {fs : List Value} (hci : vwCl[ci]? = some q) (hqC : q.1 = C) (hq0 : ws[q0]? = some (b, .inr (ci, fs)))
    (isC isR perm : List Nat) (hC1 : isC.map (fun i => ws[i]?) = wc.map some) (hnC : va_nd isC = true) (hR1 : isR.map (fun i => ws[i]?) = (isR.filterMap (fun i => ws[i]?)).map some) (hnR : va_nd isR = true) (hdis : ∀ i ∈ isR, i ∉ isC)
    (hp1 : perm.filterMap (fun i => (isR.filterMap (fun i => ws[i]?) ++ wcF res)[i]?) = ws') (hp2 : perm.map (fun i => (isR.filterMap (fun i => ws[i]?) ++ wcF res)[i]?) = ws'.map some) (hpn : va_nd perm = true)
    (hl : lv_has ls nL lv) (hn : As.length = n) (hroom : (rest.map fun v => v.category).sum ≤ 8) (hcs : cells ≤ R.cells ∧ slots ≤ R.slots) (hst' : (ovF res).toList ++ rest = st') (hdg : decode cc pc = .ok (.invokevirtual index, 3))
    (kk : ∀ (H1 : Heap) (locs1 : List Loc), xI D A s ws' tys H1 locs1 → W p l e R s m args below meth c H1 locs1 cells slots Q (F0 m (pc + 3) ls st')) :
    W p l e R s m args below meth c H locs cells slots Q (F0 m pc ls (As.reverse ++ .ref b :: rest)) := by
  subst hst'
  exact x_back I isC isR perm hC1 hR1 hnR hdis hp1 hp2 hpn (va_runV (As := As) (rest := rest) S (hC H.size) cw ⟨x_blind D _ wc tys H.size, by rw [← hqC]; exact va_recv I.2.2.1 I.1 hci hq0, x_pre I isC hC1 hnC⟩ rfl hn hl.1 rfl (lv_room hroom) hdg hcs) kk
theorem x_cS {τ : Type} {wc : va_W} {wcF : τ → va_W} {ovF : τ → Option Value} {res : τ} {lv : List (Nat × Value)} {st' : List Value} (S : CallFix p m c cc nL s args Ts own) (I : xI D A s ws tys H locs)
    (hC : xC l y wsY rm D As wc wcF tys ovF res) (cw : CallB R s args own index y bytes maxL ret wsY rm 0 0 n ∧ (Cond.static y).before args s = true)
    (isC isR perm : List Nat) (hC1 : isC.map (fun i => ws[i]?) = wc.map some) (hnC : va_nd isC = true) (hR1 : isR.map (fun i => ws[i]?) = (isR.filterMap (fun i => ws[i]?)).map some) (hnR : va_nd isR = true) (hdis : ∀ i ∈ isR, i ∉ isC)
    (hp1 : perm.filterMap (fun i => (isR.filterMap (fun i => ws[i]?) ++ wcF res)[i]?) = ws') (hp2 : perm.map (fun i => (isR.filterMap (fun i => ws[i]?) ++ wcF res)[i]?) = ws'.map some) (hpn : va_nd perm = true)
    (hl : lv_has ls nL lv) (hn : As.length = n) (hroom : (rest.map fun v => v.category).sum ≤ 8) (hcs : cells ≤ R.cells ∧ slots ≤ R.slots) (hst' : (ovF res).toList ++ rest = st') (hdg : decode cc pc = .ok (.invokestatic index, 3))
    (kk : ∀ (H1 : Heap) (locs1 : List Loc), xI D A s ws' tys H1 locs1 → W p l e R s m args below meth c H1 locs1 cells slots Q (F0 m (pc + 3) ls st')) :
    W p l e R s m args below meth c H locs cells slots Q (F0 m pc ls (As.reverse ++ rest)) := by
  subst hst'
  exact x_back I isC isR perm hC1 hR1 hnR hdis hp1 hp2 hpn (va_runS (As := As) (rest := rest) S (hC H.size) cw ⟨x_blind D _ wc tys H.size, x_pre I isC hC1 hnC⟩ rfl hn hl.1 rfl (lv_room hroom) hdg hcs) kk
/-- a static method that touches no cell -/
theorem x_c0 {τ : Type} {wcF : τ → va_W} {ovF : τ → Option Value} {res : τ} {lv : List (Nat × Value)} {st' : List Value} (S : CallFix p m c cc nL s args Ts own) (I : xI D A s ws tys H locs) (hwc : wcF res = [])
    (hC : xC l y wsY rm D As [] wcF tys ovF res) (cw : CallB R s args own index y bytes maxL ret wsY rm 0 0 n ∧ (Cond.static y).before args s = true)
    (hl : lv_has ls nL lv) (hn : As.length = n) (hroom : (rest.map fun v => v.category).sum ≤ 8) (hcs : cells ≤ R.cells ∧ slots ≤ R.slots) (hst' : (ovF res).toList ++ rest = st') (hdg : decode cc pc = .ok (.invokestatic index, 3))
    (kk : ∀ (H1 : Heap) (locs1 : List Loc), xI D A s ws tys H1 locs1 → W p l e R s m args below meth c H1 locs1 cells slots Q (F0 m (pc + 3) ls st')) :
    W p l e R s m args below meth c H locs cells slots Q (F0 m pc ls (As.reverse ++ rest)) := by
  subst hst'
  obtain ⟨iP, iD, iK, iS, iA, iN⟩ := id I
  have hr : va_Run p l e R s m args below meth c H locs cells slots 0 0 (F0 m pc ls (As.reverse ++ rest)) rest (xPost D [] wcF tys ovF res H.size As.toArray) (va_A [] H.size) := va_runS (As := As) (rest := rest) S (hC H.size) cw ⟨x_blind D _ [] tys H.size, x_pre I [] rfl rfl⟩ (g := F0 m pc ls (As.reverse ++ rest)) rfl hn hl.1 rfl (lv_room hroom) hdg hcs
  have hF : ∀ q, va_A [] H.size q → A q := fun q h => by
    rcases h with ⟨k, e9, h⟩ | h
    · simp at h
    · exact iA q (Nat.le_trans iS.1 h)
  intro T hT X
  obtain ⟨v, st₀, t, T', L, h0, X', hL, e1, e2, ⟨⟨hv, hP1, hK1, hD1⟩, hz, hk⟩, st⟩ := hr T hT X
  cases hv
  rw [h0] at hz hk
  rw [← e1] at hk hz
  have hlt : ∀ q : Nat, q < H.size → ¬ va_A [] H.size q := fun q h1 h2 => by
    rcases h2 with ⟨k, e9, h⟩ | h
    · simp at h
    · omega
  obtain ⟨t2, a1, b1⟩ := kk T'.heap (locs ++ L) ⟨iP.kept (fun k q hkq => hk q.1 (iP k q hkq).lt (hlt _ (iP k q hkq).lt)), iD, iK,
    ⟨Nat.le_trans iS.1 hz, fun q h1 h2 => by rw [hk q (Nat.lt_of_lt_of_le h1 iS.1) (hlt q (Nat.lt_of_lt_of_le h1 iS.1))]; exact iS.2.1 q h1 h2, fun q hq => by
      rcases List.mem_append.mp hq with h | h
      · exact iS.2.2 q h
      · exact hF _ (hL q h)⟩, iA, iN⟩ T' rfl X'
  exact ⟨t2, st t2 a1, b1⟩
/-- the same of a nest mate -/
theorem x_c0N {host : String} {ws1 : List Cond} {τ : Type} {wcF : τ → va_W} {ovF : τ → Option Value} {res : τ} {lv : List (Nat × Value)} {st' : List Value} (S : CallFix p m c cc nL s args Ts own) (I : xI D A s ws tys H locs) (hwc : wcF res = [])
    (hC : xC l y wsY rm D As [] wcF tys ovF res) (hG : GoodIn Ts wsY) (hw : wsY = Cond.code y bytes maxL ret :: ws1) (hrc : rm.cells = 0) (hrs : rm.slots = 0) (hlk : Cond.methodLinkNest own index y host ∈ xNests) (hini : Cond.initialized y.cls ∈ Ts) (hst : Cond.static y ∈ Ts)
    (hd : y.cls ≠ "java/lang/invoke/MethodHandle" ∧ y.cls ≠ "java/lang/invoke/VarHandle" ∧ (parseMethodDescriptor y.desc).map (fun d => d.parameters.length) = some n) (hR : rm.frames + 1 ≤ R.frames ∧ 8 + (maxL + 11) + rm.locals ≤ R.locals)
    (hl : lv_has ls nL lv) (hn : As.length = n) (hroom : (rest.map fun v => v.category).sum ≤ 8) (hcs : cells ≤ R.cells ∧ slots ≤ R.slots) (hst' : (ovF res).toList ++ rest = st') (hdg : decode cc pc = .ok (.invokestatic index, 3))
    (kk : ∀ (H1 : Heap) (locs1 : List Loc), xI D A s ws tys H1 locs1 → W p l e R s m args below meth c H1 locs1 cells slots Q (F0 m (pc + 3) ls st')) :
    W p l e R s m args below meth c H locs cells slots Q (F0 m pc ls (As.reverse ++ rest)) := by
  subst hst'
  obtain ⟨iP, iD, iK, iS, iA, iN⟩ := id I
  have hts := S.2.2.2.2
  have cw : va_CN R s args own index y host bytes maxL ret wsY rm 0 0 n := va_cnB n hts hG hw hrc hrs (iN _ hlk) (hts _ hini) hd hR
  have hr : va_Run p l e R s m args below meth c H locs cells slots 0 0 (F0 m pc ls (As.reverse ++ rest)) rest (xPost D [] wcF tys ovF res H.size As.toArray) (va_A [] H.size) := va_runSN (As := As) (rest := rest) S (hC H.size) ⟨cw, hts _ hst, trivial⟩ ⟨x_blind D _ [] tys H.size, x_pre I [] rfl rfl⟩ (g := F0 m pc ls (As.reverse ++ rest)) rfl hn hl.1 rfl (lv_room hroom) hdg hcs
  have hF : ∀ q, va_A [] H.size q → A q := fun q h => by
    rcases h with ⟨k, e9, h⟩ | h
    · simp at h
    · exact iA q (Nat.le_trans iS.1 h)
  intro T hT X
  obtain ⟨v, st₀, t, T', L, h0, X', hL, e1, e2, ⟨⟨hv, hP1, hK1, hD1⟩, hz, hk⟩, st⟩ := hr T hT X
  cases hv
  rw [h0] at hz hk
  rw [← e1] at hk hz
  have hlt : ∀ q : Nat, q < H.size → ¬ va_A [] H.size q := fun q h1 h2 => by
    rcases h2 with ⟨k, e9, h⟩ | h
    · simp at h
    · omega
  obtain ⟨t2, a1, b1⟩ := kk T'.heap (locs ++ L) ⟨iP.kept (fun k q hkq => hk q.1 (iP k q hkq).lt (hlt _ (iP k q hkq).lt)), iD, iK,
    ⟨Nat.le_trans iS.1 hz, fun q h1 h2 => by rw [hk q (Nat.lt_of_lt_of_le h1 iS.1) (hlt q (Nat.lt_of_lt_of_le h1 iS.1))]; exact iS.2.1 q h1 h2, fun q hq => by
      rcases List.mem_append.mp hq with h | h
      · exact iS.2.2 q h
      · exact hF _ (hL q h)⟩, iA, iN⟩ T' rfl X'
  exact ⟨t2, st t2 a1, b1⟩
/-- a call of a method whose world is the caller's whole world -/
theorem x_cA {τ : Type} {wcF : τ → va_W} {ovF : τ → Option Value} {res : τ} {lv : List (Nat × Value)} {st' : List Value} (S : CallFix p m c cc nL s args Ts own) (I : xI D A s ws tys H locs)
    (hC : xC l y wsY rm D (.ref b :: As) ws wcF tys ovF res) (cw : CallW R s args own C index y bytes maxL ret wsY rm 0 0 n)
    (q0 ci : Nat) {q : vw_C} {fs : List Value} (hci : vwCl[ci]? = some q) (hqC : q.1 = C) (hq0 : ws[q0]? = some (b, .inr (ci, fs))) (hws : wcF res = ws')
    (hl : lv_has ls nL lv) (hn : As.length = n) (hroom : (rest.map fun v => v.category).sum ≤ 8) (hcs : cells ≤ R.cells ∧ slots ≤ R.slots) (hst' : (ovF res).toList ++ rest = st') (hdg : decode cc pc = .ok (.invokevirtual index, 3))
    (kk : ∀ (H1 : Heap) (locs1 : List Loc), xI D A s ws' tys H1 locs1 → W p l e R s m args below meth c H1 locs1 cells slots Q (F0 m (pc + 3) ls st')) :
    W p l e R s m args below meth c H locs cells slots Q (F0 m pc ls (As.reverse ++ .ref b :: rest)) := by
  subst hst'
  subst hws
  obtain ⟨iP, iD, iK, iS, iA, iN⟩ := id I
  have hr : va_Run p l e R s m args below meth c H locs cells slots 0 0 (F0 m pc ls (As.reverse ++ .ref b :: rest)) rest (xPost D ws wcF tys ovF res H.size (Value.ref b :: As).toArray) (va_A ws H.size) := va_runV (As := As) (rest := rest) S (hC H.size) cw ⟨x_blind D _ ws tys H.size, by rw [← hqC]; exact va_recv I.2.2.1 I.1 hci hq0, fun U hU hW => ⟨rfl, by rw [hU], by rw [hU]; exact iP, va_K.moved hW.alike iK, iD.weaken (fun _ _ _ _ => trivial), xN_warm hW iN⟩⟩ (g := F0 m pc ls (As.reverse ++ .ref b :: rest)) rfl hn hl.1 rfl (lv_room hroom) hdg hcs
  have hF : ∀ q, va_A ws H.size q → A q := fun q h => by
    rcases h with ⟨k, e9, h⟩ | h
    · exact iD.2 k _ h
    · exact iA q (Nat.le_trans iS.1 h)
  intro T hT X
  obtain ⟨v, st₀, t, T', L, h0, X', hL, e1, e2, ⟨⟨hv, hP1, hK1, hD1⟩, hz, hk⟩, st⟩ := hr T hT X
  cases hv
  rw [h0] at hz hk
  rw [← e1] at hP1 hk hz
  obtain ⟨t2, a1, b1⟩ := kk T'.heap (locs ++ L) ⟨hP1, hD1.weaken (fun k q _ h => hF q.1 h), iK,
    ⟨Nat.le_trans iS.1 hz, fun q h1 h2 => by rw [hk q (Nat.lt_of_lt_of_le h1 iS.1) (fun z => h2 (hF q z))]; exact iS.2.1 q h1 h2, fun q hq => by
      rcases List.mem_append.mp hq with h | h
      · exact iS.2.2 q h
      · exact hF _ (hL q h)⟩, iA, iN⟩ T' rfl X'
  exact ⟨t2, st t2 a1, b1⟩
end XG
end XW

end XC
