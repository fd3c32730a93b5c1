section YL
/-! a letter of a page: the class asks a text for it -/
def fX2_isLetter (p1 : Int32) : Option Int32 := some (if p1 ∈ yLets then 1 else 0)
theorem fX2_isLetter_e (p1 : Int32) : fX2_isLetter p1 = some (if p1 ∈ yLets then 1 else 0) := rfl
def zPre (D : va_G) (sa : Nat → Nat) (av : List Value) (tys : List (ClassId × FieldType)) (sz : Nat) : Array Value → State → Prop :=
  va_Pc av (fun U => U.heap.size = sz ∧ va_K D vwCl tys U ∧ yLet (sa 0) (sa 1) (va_A [] sz) U U.heap)
def zC (l : Launch) (y : MethodName) (ws : List Cond) (rm : Room) (D : va_G) (sa : Nat → Nat) (av : List Value) (tys : List (ClassId × FieldType)) (res : Int32) : Prop :=
  ∀ sz : Nat, Met l y ws rm (zPre D sa av tys sz) (xPost D [] (fun _ => []) tys (fun t => some (.int t)) res sz) 0 0 (va_A [] sz)
theorem y_blindL (D : va_G) (sa : Nat → Nat) (av : List Value) (tys : List (ClassId × FieldType)) (sz : Nat) : FrameBlind (zPre D sa av tys sz) := fun a U g mk q => by
  obtain ⟨q0, q1, qK, qL⟩ := q
  exact ⟨q0, q1, va_K.moved (u := U) (U := U.calling g mk a) (Vm.Alike.refl U.vm) qK, yLet_same (u := U) (U := U.calling g mk a) rfl qL⟩
section YLW
variable {p : Program} {l : Launch} {e : Env} {R : Room} {s : State} {m : MethodId} {args : Array Value} {below : List Frame} {meth : Method} {c : Code} {H : Heap} {locs : List Loc} {cells slots : Nat} {Q : State → Prop}
theorem y_cL {cc bytes : ByteArray} {nL maxL n index pc : Nat} {Ts wsY : List Cond} {own : String} {D : va_G} {A : Nat → Prop} {tys : List (ClassId × FieldType)} {ws : va_W} {ls : Array Slot} {rest st' As : List Value} {y : MethodName} {ret : Option FieldType} {rm : Room} {lv : List (Nat × Value)} {sa : Nat → Nat} {res : Int32}
    (S : CallFix p m c cc nL s args Ts own) (I : xI D A s ws tys H locs) (Z : yZ sa A s s.heap) (hC : zC l y wsY rm D sa As tys res) (cw : CallB R s args own index y bytes maxL ret wsY rm 0 0 n ∧ (Cond.static y).before args s = true)
    (hl : lv_has ls nL lv) (hn : As.length = n) (hroom : (rest.map fun v => v.category).sum ≤ 8) (hcs : cells ≤ R.cells ∧ slots ≤ R.slots) (hst' : .int res :: rest = st') (hdg : decode cc pc = .ok (.invokestatic index, 3))
    (kk : ∀ (H1 : Heap) (locs1 : List Loc), xI D A s ws tys H1 locs1 → W p l e R s m args below meth c H1 locs1 cells slots Q (F0 m (pc + 3) ls st')) :
    W p l e R s m args below meth c H locs cells slots Q (F0 m pc ls (As.reverse ++ rest)) := by
  subst hst'
  obtain ⟨iP, iD, iK, iS, iA, iN⟩ := id I
  have hF : ∀ q, va_A [] H.size q → A q := fun q h => by
    rcases h with ⟨k, e9, h⟩ | h
    · simp at h
    · exact iA q (Nat.le_trans iS.1 h)
  have hr : va_Run p l e R s m args below meth c H locs cells slots 0 0 (F0 m pc ls (As.reverse ++ rest)) rest (xPost D [] (fun _ => []) tys (fun t => some (.int t)) res H.size As.toArray) (va_A [] H.size) :=
    va_runS (As := As) (rest := rest) S (hC H.size) cw ⟨y_blindL D sa As tys H.size, fun U hU hW => ⟨rfl, by rw [hU], va_K.moved hW.alike iK, by rw [hU]; exact yLet_go hW (fun a h1 h2 => iS.2.1 a h1 h2) hF Z.2.2.2.2.2⟩⟩ (g := F0 m pc ls (As.reverse ++ rest)) rfl hn hl.1 rfl (lv_room hroom) hdg hcs
  intro T hT X
  obtain ⟨v, st₀, t, T', L, h0, X', hL, e1, e2, ⟨⟨hv, hP1, hK1, hD1⟩, hz, hk⟩, st⟩ := hr T hT X
  cases hv
  rw [h0] at hz hk
  rw [← e1] at hk hz
  have hlt : ∀ q : Nat, q < H.size → ¬ va_A [] H.size q := fun q h1 h2 => by
    rcases h2 with ⟨k, e9, h⟩ | h
    · simp at h
    · omega
  obtain ⟨t2, a1, b1⟩ := kk T'.heap (locs ++ L) ⟨iP.kept (fun k q hkq => hk q.1 (iP k q hkq).lt (hlt _ (iP k q hkq).lt)), iD, iK,
    ⟨Nat.le_trans iS.1 hz, fun q h1 h2 => by rw [hk q (Nat.lt_of_lt_of_le h1 iS.1) (hlt q (Nat.lt_of_lt_of_le h1 iS.1))]; exact iS.2.1 q h1 h2, fun q hq => by
      rcases List.mem_append.mp hq with h | h
      · exact iS.2.2 q h
      · exact hF _ (hL q h)⟩, iA, iN⟩ T' rfl X'
  exact ⟨t2, st t2 a1, b1⟩
end YLW
/-! the JDK's own search of a text that the constant pool holds -/
def jPost (res : Int32) (sz : Nat) : Array Value → State → Outcome → State → Prop := fun _ st oc t => oc = .returned (some (.int res)) ∧ va_F (va_A [] sz) st t
def jPre (kS vS : Nat) (av : List Value) (sz : Nat) : Array Value → State → Prop := va_Pc av (fun U => U.heap.size = sz ∧ yLet kS vS (va_A [] sz) U U.heap)
def jC (l : Launch) (y : MethodName) (ws : List Cond) (rm : Room) (kS vS : Nat) (av : List Value) (res : Int32) : Prop :=
  ∀ sz : Nat, Met l y ws rm (jPre kS vS av sz) (jPost res sz) 0 0 (va_A [] sz)
def jE (s : State) (args : Array Value) (below : List Frame) (meth : Method) (ret : Option FieldType) (A : Nat → Prop) (res : Int32) (Q : State → Prop) : Prop :=
  Q = MQ below (jPost res s.heap.size) args s 0 0 A ∧ A = va_A [] s.heap.size ∧ meth.sig.returnType = ret ∧ meth.locks = false
theorem j_blind (kS vS : Nat) (av : List Value) (sz : Nat) : FrameBlind (jPre kS vS av sz) := fun a U g mk q => by
  obtain ⟨q0, q1, qL⟩ := q
  exact ⟨q0, q1, yLet_same (u := U) (U := U.calling g mk a) rfl qL⟩
section JW
variable {p : Program} {l : Launch} {e : Env} {R : Room} {s : State} {m : MethodId} {args : Array Value} {below : List Frame} {meth : Method} {c : Code} {H : Heap} {locs : List Loc} {Q : State → Prop}
theorem j_of {y : MethodName} {ws ws' : List Cond} {rm : Room} {kS vS : Nat} {av : List Value} {res : Int32} {cc : ByteArray} {maxL : Nat} {ret : Option FieldType}
    (hy : plainName y.cls = true) (hw : ws = Cond.code y cc maxL ret :: ws') (hlen : (lg_sl av).length ≤ maxL)
    (body : ∀ (p : Program) (e : Env) (s : State) (m : MethodId) (args : Array Value) (below : List Frame) (meth : Method) (c : Code) (A : Nat → Prop) (Q : State → Prop) (ls : Array Slot),
      CallFix p m c cc maxL s args ws y.cls → yLet kS vS A s s.heap → va_S A s.heap s.heap [] → (∀ q : Nat, s.heap.size ≤ q → A q) → jE s args below meth ret A res Q → lv_has ls maxL (lv_args 0 av) →
      W p l e (headSpec ws rm).room s m args below meth c s.heap [] 0 0 Q (F0 m 0 ls [])) : jC l y ws rm kS vS av res := by
  intro sz
  refine Met.ofW (cc := cc) (maxL := maxL) (ret := ret) hy hw ?_
  intro p e s m args below meth c s₁ B hml hv
  obtain ⟨rfl, hsz, hL⟩ := hv
  have hts := atoms_spec (ws := ws) B.pre
  have hown : s.vm.findClass y.cls = some m.cls := findClass_of_methodNamed B.named
  subst hsz
  rw [lg_entry_eq]
  exact body p e s m _ below meth c (va_A [] s.heap.size) _ _ ⟨B.exec, B.bytes, hml, hown, hts⟩ hL va_S.rf (fun q h => Or.inr h) ⟨rfl, rfl, B.returns, B.notSynchronized⟩ (lv_entry av hlen)
section JR
variable {cc bytes : ByteArray} {nL maxL n index pc : Nat} {Ts wsY : List Cond} {own C : String} {A : Nat → Prop} {ls : Array Slot} {rest st' As : List Value} {y : MethodName} {ret : Option FieldType} {rm : Room} {lv : List (Nat × Value)} {kS vS : Nat} {res : Int32}
theorem j_ri (S : CallFix p m c cc nL s args Ts own) (E : jE s args below meth ret A res Q) {ty : FieldType} {v : Int32} (hret : ret = some ty) (hn : narrow ty (.int v) = .int res) (hS : va_S A s.heap H locs) (hd : decode cc pc = .ok (.ireturn, 1)) : W p l e R s m args below meth c H locs 0 0 Q (F0 m pc ls [.int v]) := by
  obtain ⟨rfl, rfl, hr, hlocks⟩ := E
  exact x_nret S.1 S.2.1 (hr.trans hret) hn (fun t ht hW => ⟨rfl, hS.F ht⟩) hS.2.2 hd hlocks
theorem j_back {Aa : Array Value} {st0 : List Value} (hS : va_S A s.heap H locs) (hA : ∀ q : Nat, s.heap.size ≤ q → A q) (hr : va_Run p l e R s m args below meth c H locs 0 0 0 0 (F0 m pc ls st0) rest (jPost res H.size Aa) (va_A [] H.size))
    (kk : ∀ (H1 : Heap) (locs1 : List Loc), va_S A s.heap H1 locs1 → W p l e R s m args below meth c H1 locs1 0 0 Q (F0 m (pc + 3) ls (.int res :: rest))) : W p l e R s m args below meth c H locs 0 0 Q (F0 m pc ls st0) := by
  have hF : ∀ q, va_A [] H.size q → A q := fun q h => by
    rcases h with ⟨k, e9, h⟩ | h
    · simp at h
    · exact hA q (Nat.le_trans hS.1 h)
  intro T hT X
  obtain ⟨v, st₀, t, T', L, h0, X', hL, e1, e2, ⟨hv, hz, hk⟩, st⟩ := hr T hT X
  cases hv
  rw [h0] at hz hk
  rw [← e1] at hk hz
  have hlt : ∀ q : Nat, q < H.size → ¬ va_A [] H.size q := fun q h1 h2 => by
    rcases h2 with ⟨k, e9, h⟩ | h
    · simp at h
    · omega
  obtain ⟨t2, a1, b1⟩ := kk T'.heap (locs ++ L) ⟨Nat.le_trans hS.1 hz, fun q h1 h2 => by rw [hk q (Nat.lt_of_lt_of_le h1 hS.1) (hlt q (Nat.lt_of_lt_of_le h1 hS.1))]; exact hS.2.1 q h1 h2, fun q hq => by
      rcases List.mem_append.mp hq with h | h
      · exact hS.2.2 q h
      · exact hF _ (hL q h)⟩ T' rfl X'
  exact ⟨t2, st t2 a1, b1⟩
theorem j_pre (hL : yLet kS vS A s s.heap) (hS : va_S A s.heap H locs) (hA : ∀ q : Nat, s.heap.size ≤ q → A q) (av : List Value) : ∀ U : State, U.heap = H → s.WarmedH U.vm → jPre kS vS av H.size av.toArray U := by
  intro U hU hW
  refine ⟨rfl, by rw [hU], ?_⟩
  rw [hU]
  exact yLet_go hW (fun a h1 h2 => hS.2.1 a h1 h2) (fun q h => by
    rcases h with ⟨k, e9, h⟩ | h
    · simp at h
    · exact hA q (Nat.le_trans hS.1 h)) hL
theorem j_cV (S : CallFix p m c cc nL s args Ts own) (hL : yLet kS vS A s s.heap) (hS : va_S A s.heap H locs) (hA : ∀ q : Nat, s.heap.size ≤ q → A q) (hC : jC l y wsY rm kS vS (.ref kS :: As) res) (cw : CallW R s args own "java/lang/String" index y bytes maxL ret wsY rm 0 0 n)
    (hl : lv_has ls nL lv) (hn : As.length = n) (hroom : (rest.map fun v => v.category).sum ≤ 8) (hdg : decode cc pc = .ok (.invokevirtual index, 3))
    (kk : ∀ (H1 : Heap) (locs1 : List Loc), va_S A s.heap H1 locs1 → W p l e R s m args below meth c H1 locs1 0 0 Q (F0 m (pc + 3) ls (.int res :: rest))) : W p l e R s m args below meth c H locs 0 0 Q (F0 m pc ls (As.reverse ++ .ref kS :: rest)) := by
  have hrc : ∃ cellB : Cell, H[kS]? = some cellB ∧ cellB.vm.isStatics = false ∧ s.vm.findClass "java/lang/String" = some cellB.cls := by
    obtain ⟨cell, h1, h2, h3, -⟩ := hL.2.1.kept (H1 := H) (fun a h1 h2 => hS.2.1 a h1 h2)
    exact ⟨cell, h1, h2, h3⟩
  exact j_back hS hA (va_runV (As := As) (rest := rest) S (hC H.size) cw ⟨j_blind kS vS _ H.size, hrc, j_pre hL hS hA _⟩ (g := F0 m pc ls (As.reverse ++ .ref kS :: rest)) rfl hn hl.1 rfl (lv_room hroom) hdg ⟨Nat.zero_le _, Nat.zero_le _⟩) kk
theorem j_cS (S : CallFix p m c cc nL s args Ts own) (hL : yLet kS vS A s s.heap) (hS : va_S A s.heap H locs) (hA : ∀ q : Nat, s.heap.size ≤ q → A q) (hC : jC l y wsY rm kS vS As res) (cw : CallB R s args own index y bytes maxL ret wsY rm 0 0 n ∧ (Cond.static y).before args s = true)
    (hl : lv_has ls nL lv) (hn : As.length = n) (hroom : (rest.map fun v => v.category).sum ≤ 8) (hdg : decode cc pc = .ok (.invokestatic index, 3))
    (kk : ∀ (H1 : Heap) (locs1 : List Loc), va_S A s.heap H1 locs1 → W p l e R s m args below meth c H1 locs1 0 0 Q (F0 m (pc + 3) ls (.int res :: rest))) : W p l e R s m args below meth c H locs 0 0 Q (F0 m pc ls (As.reverse ++ rest)) :=
  j_back hS hA (va_runS (As := As) (rest := rest) S (hC H.size) cw ⟨j_blind kS vS _ H.size, j_pre hL hS hA _⟩ (g := F0 m pc ls (As.reverse ++ rest)) rfl hn hl.1 rfl (lv_room hroom) hdg ⟨Nat.zero_le _, Nat.zero_le _⟩) kk
theorem j_len (S : CallFix p m c cc nL s args Ts own) (hL : yLet kS vS A s s.heap) (hS : va_S A s.heap H locs) (hdg : decode cc pc = .ok (.arraylength, 1))
    (kk : W p l e R s m args below meth c H locs 0 0 Q (F0 m (pc + 1) ls (.int 15 :: rest))) : W p l e R s m args below meth c H locs 0 0 Q (F0 m pc ls (.ref vS :: rest)) := by
  obtain ⟨cell, h1, h2, h3, h4, h5, h6, -⟩ := hL.2.2.2.2.1.kept (H1 := H) (fun a h1 h2 => hS.2.1 a h1 h2)
  exact W.alen (n := 15) S.1 S.2.1 h1 h2 h5 rfl rfl hdg kk
theorem j_bald (S : CallFix p m c cc nL s args Ts own) (hL : yLet kS vS A s s.heap) (hS : va_S A s.heap H locs) {j : Nat} (hj : j < 15) (hdg : decode cc pc = .ok (.baload, 1))
    (kk : W p l e R s m args below meth c H locs 0 0 Q (F0 m (pc + 1) ls (.int (yLets.getD j 0) :: rest))) : W p l e R s m args below meth c H locs 0 0 Q (F0 m pc ls (.int (nI j) :: .ref vS :: rest)) := by
  obtain ⟨cell, h1, h2, h3, h4, h5, h6, -⟩ := hL.2.2.2.2.1.kept (H1 := H) (fun a h1 h2 => hS.2.1 a h1 h2)
  have e : (nI j).toNatClampNeg = j := nI_clamp (by omega)
  refine W.bald (v := .int (yLets.getD j 0)) S.1 S.2.1 h1 h2 h3 ?_ ?_ rfl rfl hdg kk
  · intro h
    rcases h with h | h
    · exact nI_pos (n := j) (by omega) h
    · rw [e] at h; omega
  · rw [e]; exact h6 j hj
end JR
end JW
def rmJ0_coder : Room := { frames := 0, cells := 0, slots := 0, locals := 0 }
theorem tJ0_coder (l : Launch) (kS vS : Nat) : jC l yJ0_coder_7d493 wsJ0_coder_7d493 rmJ0_coder kS vS [.ref kS] 0 := by
  refine j_of (cc := cJ0_coder_7d493) (maxL := 1) (ret := some .byte) (by decide) rfl (Nat.le_of_ble_eq_true rfl) ?_
  intro p e s m args below meth c A Q ls S hL hS hA E hl
  replace hl : lv_has ls 1 [(0, .ref kS)] := hl
  refine va_gets S.1 S.2.1 hL.2.2.2.2.2 hS S.2.2.2.1 (S.2.2.2.2 (.fieldLink RJ0 38 "java/lang/String" "COMPACT_STRINGS" "Z") (by decide +kernel)) (fun _ h => h) dJ0_coder_7d493_0 ?_
  refine lv_if_eq (tgt := 13) S.1 S.2.1 dJ0_coder_7d493_3 (by decide) (fun c1 => absurd c1 (by decide)) (fun c1 => ?_)
  refine lv_aload_n S.1 S.2.1 dJ0_coder_7d493_6 rfl (lv_at hl 0 rfl) ?_
  refine vk_getf S.1 S.2.1 hL.2.2.1 hS S.2.2.2.1 (S.2.2.2.2 (.fieldLink RJ0 15 "java/lang/String" "coder" "B") (by decide +kernel)) (fun _ h => h) dJ0_coder_7d493_7 ?_
  refine lv_goto (tgt := 14) S.1 S.2.1 dJ0_coder_7d493_10 (by decide) ?_
  exact j_ri S E rfl (by decide) hS dJ0_coder_7d493_14
def rmJ0_isLatin1 : Room := { frames := 0, cells := 0, slots := 0, locals := 0 }
theorem tJ0_isLatin1 (l : Launch) (kS vS : Nat) : jC l yJ0_isLatin1_aae02 wsJ0_isLatin1_aae02 rmJ0_isLatin1 kS vS [.ref kS] 1 := by
  refine j_of (cc := cJ0_isLatin1_aae02) (maxL := 1) (ret := some .boolean) (by decide) rfl (Nat.le_of_ble_eq_true rfl) ?_
  intro p e s m args below meth c A Q ls S hL hS hA E hl
  replace hl : lv_has ls 1 [(0, .ref kS)] := hl
  refine va_gets S.1 S.2.1 hL.2.2.2.2.2 hS S.2.2.2.1 (S.2.2.2.2 (.fieldLink RJ0 38 "java/lang/String" "COMPACT_STRINGS" "Z") (by decide +kernel)) (fun _ h => h) dJ0_isLatin1_aae02_0 ?_
  refine lv_if_eq (tgt := 17) S.1 S.2.1 dJ0_isLatin1_aae02_3 (by decide) (fun c1 => absurd c1 (by decide)) (fun c1 => ?_)
  refine lv_aload_n S.1 S.2.1 dJ0_isLatin1_aae02_6 rfl (lv_at hl 0 rfl) ?_
  refine vk_getf S.1 S.2.1 hL.2.2.1 hS S.2.2.2.1 (S.2.2.2.2 (.fieldLink RJ0 15 "java/lang/String" "coder" "B") (by decide +kernel)) (fun _ h => h) dJ0_isLatin1_aae02_7 ?_
  refine lv_if_ne (tgt := 17) S.1 S.2.1 dJ0_isLatin1_aae02_10 (by decide) (fun c2 => absurd rfl c2) (fun c2 => ?_)
  refine lv_iconst (v := 1) S.1 S.2.1 dJ0_isLatin1_aae02_13 (by decide) ?_
  refine lv_goto (tgt := 18) S.1 S.2.1 dJ0_isLatin1_aae02_14 (by decide) ?_
  exact j_ri S E rfl (by decide) hS dJ0_isLatin1_aae02_18
def rmJ0_length : Room := { frames := 1, cells := 0, slots := 0, locals := 20 }
theorem tJ0_length (l : Launch) (kS vS : Nat) : jC l yJ0_length_8abf5 wsJ0_length_8abf5 rmJ0_length kS vS [.ref kS] 15 := by
  refine j_of (cc := cJ0_length_8abf5) (maxL := 1) (ret := some .int) (by decide) rfl (Nat.le_of_ble_eq_true rfl) ?_
  intro p e s m args below meth c A Q ls S hL hS hA E hl
  replace hl : lv_has ls 1 [(0, .ref kS)] := hl
  refine lv_aload_n S.1 S.2.1 dJ0_length_8abf5_0 rfl (lv_at hl 0 rfl) ?_
  refine vk_getf S.1 S.2.1 hL.2.2.2.1 hS S.2.2.2.1 (S.2.2.2.2 (.fieldLink RJ0 9 "java/lang/String" "value" "[B") (by decide +kernel)) (fun _ h => h) dJ0_length_8abf5_1 ?_
  refine j_len S hL hS dJ0_length_8abf5_4 ?_
  refine lv_aload_n S.1 S.2.1 dJ0_length_8abf5_5 rfl (lv_at hl 0 rfl) ?_
  refine j_cV (As := []) (rest := [.int 15]) S hL hS hA (tJ0_coder l kS vS) (cwV 0 S.2.2.2.2 gJ0_length_8abf5_J0_coder_7d493 rfl rfl rfl (by decide +kernel) ⟨Nat.le_of_ble_eq_true rfl, Nat.le_of_ble_eq_true rfl⟩) hl rfl (Nat.le_of_ble_eq_true rfl) dJ0_length_8abf5_6 (fun H locs hS => ?_)
  refine lv_ishr S.1 S.2.1 dJ0_length_8abf5_9 ?_
  exact j_ri S E rfl (by decide) hS dJ0_length_8abf5_10
def rmJ1_canEncode : Room := { frames := 0, cells := 0, slots := 0, locals := 0 }
theorem tJ1_canEncode (l : Launch) (kS vS : Nat) (p1 : Int32) : jC l yJ1_canEncode_9a6ad wsJ1_canEncode_9a6ad rmJ1_canEncode kS vS [.int p1] (if p1 < 0 then 0 else if 255 < p1 then 0 else 1) := by
  refine j_of (cc := cJ1_canEncode_9a6ad) (maxL := 1) (ret := some .boolean) (by decide) rfl (Nat.le_of_ble_eq_true rfl) ?_
  intro p e s m args below meth c A Q ls S hL hS hA E hl
  replace hl : lv_has ls 1 [(0, .int p1)] := hl
  refine lv_iload_n S.1 S.2.1 dJ1_canEncode_9a6ad_0 rfl (lv_at hl 0 rfl) ?_
  refine lv_if_lt (tgt := 15) S.1 S.2.1 dJ1_canEncode_9a6ad_1 (by decide) (fun c1 => ?_) (fun c1 => ?_)
  · refine lv_iconst (v := 0) S.1 S.2.1 dJ1_canEncode_9a6ad_15 (by decide) ?_
    exact j_ri S E rfl (by rw [if_pos c1]; exact x_n0) hS dJ1_canEncode_9a6ad_16
  · refine lv_iload_n S.1 S.2.1 dJ1_canEncode_9a6ad_4 rfl (lv_at hl 0 rfl) ?_
    refine lv_sipush (v := 255) S.1 S.2.1 dJ1_canEncode_9a6ad_5 (by decide) ?_
    refine lv_icmp_gt (tgt := 15) S.1 S.2.1 dJ1_canEncode_9a6ad_8 (by decide) (fun c2 => ?_) (fun c2 => ?_)
    · refine lv_iconst (v := 0) S.1 S.2.1 dJ1_canEncode_9a6ad_15 (by decide) ?_
      exact j_ri S E rfl (by rw [if_neg c1, if_pos c2]; exact x_n0) hS dJ1_canEncode_9a6ad_16
    · refine lv_iconst (v := 1) S.1 S.2.1 dJ1_canEncode_9a6ad_11 (by decide) ?_
      refine lv_goto (tgt := 16) S.1 S.2.1 dJ1_canEncode_9a6ad_12 (by decide) ?_
      exact j_ri S E rfl (by rw [if_neg c1, if_neg c2]; exact x_n1) hS dJ1_canEncode_9a6ad_16
/-- the first place from j on, of k, at which the letters have b -/
def yIx (b : Int32) : Nat → Nat → Int32
  | _, 0 => -1
  | j, k + 1 => if yLets.getD j 0 = b then nI j else yIx b (j + 1) k
def rmJ1_indexOfChar : Room := { frames := 0, cells := 0, slots := 0, locals := 0 }
set_option maxHeartbeats 4000000 in
theorem tJ1_indexOfChar (l : Launch) (kS vS : Nat) (p1 : Int32) : jC l yJ1_indexOfChar_4cfef wsJ1_indexOfChar_4cfef rmJ1_indexOfChar kS vS [.ref vS, .int p1, .int 0, .int 15] (yIx p1.toInt8.toInt32 0 15) := by
  refine j_of (cc := cJ1_indexOfChar_4cfef) (maxL := 6) (ret := some .int) (by decide) rfl (Nat.le_of_ble_eq_true rfl) ?_
  intro p e s m args below meth c A Q ls S hL hS hA E hl
  replace hl : lv_has ls 6 [(0, .ref vS), (1, .int p1), (2, .int 0), (3, .int 15)] := hl
  refine lv_iload_n S.1 S.2.1 dJ1_indexOfChar_4cfef_0 rfl (lv_at hl 1 rfl) ?_
  refine lv_i2b (v := p1.toInt8.toInt32) S.1 S.2.1 dJ1_indexOfChar_4cfef_1 rfl ?_
  generalize hb9 : p1.toInt8.toInt32 = b9 at E ⊢
  refine lv_istore (lv' := [(4, .int b9), (0, .ref vS), (1, .int p1), (2, .int 0), (3, .int 15)]) S.1 S.2.1 dJ1_indexOfChar_4cfef_2 hl (by decide) rfl (fun ls hl => ?_)
  refine lv_iload_n S.1 S.2.1 dJ1_indexOfChar_4cfef_4 rfl (lv_at hl 3 rfl) ?_
  refine lv_istore (lv' := [(5, .int 0), (4, .int b9), (0, .ref vS), (1, .int p1), (2, .int 0), (3, .int 15)]) S.1 S.2.1 dJ1_indexOfChar_4cfef_5 hl (by decide) rfl (fun ls hl => ?_)
  have loop : ∀ (k j : Nat), j + k = 15 → yIx b9 j k = yIx b9 0 15 → ∀ (ls : Array Slot), lv_has ls 6 [(5, .int (nI j)), (4, .int b9), (0, .ref vS), (3, .int 15)] → W p l e (headSpec wsJ1_indexOfChar_4cfef rmJ1_indexOfChar).room s m args below meth c s.heap [] 0 0 Q (F0 m 7 ls []) := by
    intro k
    induction k with
    | zero =>
      intro j hj hr ls hl
      refine lv_iload S.1 S.2.1 dJ1_indexOfChar_4cfef_7 (lv_at hl 0 rfl) ?_
      refine lv_iload_n S.1 S.2.1 dJ1_indexOfChar_4cfef_9 rfl (lv_at hl 3 rfl) ?_
      refine lv_icmp_ge (tgt := 31) S.1 S.2.1 dJ1_indexOfChar_4cfef_10 (by decide) (fun c1 => ?_) (fun c1 => ?_)
      · refine lv_iconst (v := -1) S.1 S.2.1 dJ1_indexOfChar_4cfef_31 (by decide) ?_
        exact j_ri S E rfl (by rw [← hr]; rfl) hS dJ1_indexOfChar_4cfef_32
      · exact absurd ((nI_leI (a := 15) (by omega) (by omega)).mpr (by omega)) c1
    | succ k ih =>
      intro j hj hr ls hl
      refine lv_iload S.1 S.2.1 dJ1_indexOfChar_4cfef_7 (lv_at hl 0 rfl) ?_
      refine lv_iload_n S.1 S.2.1 dJ1_indexOfChar_4cfef_9 rfl (lv_at hl 3 rfl) ?_
      refine lv_icmp_ge (tgt := 31) S.1 S.2.1 dJ1_indexOfChar_4cfef_10 (by decide) (fun c1 => ?_) (fun c1 => ?_)
      · have h9 := (nI_leI (a := 15) (b := j) (by omega) (by omega)).mp c1
        omega
      · refine lv_aload_n S.1 S.2.1 dJ1_indexOfChar_4cfef_13 rfl (lv_at hl 2 rfl) ?_
        refine lv_iload S.1 S.2.1 dJ1_indexOfChar_4cfef_14 (lv_at hl 0 rfl) ?_
        refine j_bald S hL hS (j := j) (by omega) dJ1_indexOfChar_4cfef_16 ?_
        refine lv_iload S.1 S.2.1 dJ1_indexOfChar_4cfef_17 (lv_at hl 1 rfl) ?_
        rw [yIx] at hr
        refine lv_icmp_ne (tgt := 25) S.1 S.2.1 dJ1_indexOfChar_4cfef_19 (by decide) (fun c2 => ?_) (fun c2 => ?_)
        · rw [if_neg c2] at hr
          refine lv_iinc (v := nI (j + 1)) (lv' := [(5, .int (nI (j + 1))), (4, .int b9), (0, .ref vS), (3, .int 15)]) S.1 S.2.1 dJ1_indexOfChar_4cfef_25 hl (k := 0) rfl (nI_1 j) (by decide) rfl (fun ls hl => ?_)
          refine lv_goto (tgt := 7) S.1 S.2.1 dJ1_indexOfChar_4cfef_28 (by decide) ?_
          exact ih (j + 1) (by omega) hr ls hl
        · rw [if_pos c2] at hr
          refine lv_iload S.1 S.2.1 dJ1_indexOfChar_4cfef_22 (lv_at hl 0 rfl) ?_
          exact j_ri S E rfl (by rw [← hr]; rfl) hS dJ1_indexOfChar_4cfef_24
  exact loop 15 0 rfl rfl ls (lv_sub hl [0, 1, 2, 5] rfl)
def yIxS (p1 : Int32) : Int32 := if p1 < 0 then -1 else if 255 < p1 then -1 else yIx p1.toInt8.toInt32 0 15
def rmJ1_indexOf : Room := { frames := 1, cells := 0, slots := 0, locals := 25 }
set_option maxHeartbeats 4000000 in
theorem tJ1_indexOf (l : Launch) (kS vS : Nat) (p1 : Int32) : jC l yJ1_indexOf_4cfef wsJ1_indexOf_4cfef rmJ1_indexOf kS vS [.ref vS, .int p1, .int 0, .int 15] (yIxS p1) := by
  refine j_of (cc := cJ1_indexOf_4cfef) (maxL := 4) (ret := some .int) (by decide) rfl (Nat.le_of_ble_eq_true rfl) ?_
  intro p e s m args below meth c A Q ls S hL hS hA E hl
  replace hl : lv_has ls 4 [(0, .ref vS), (1, .int p1), (2, .int 0), (3, .int 15)] := hl
  refine lv_iload_n S.1 S.2.1 dJ1_indexOf_4cfef_0 rfl (lv_at hl 1 rfl) ?_
  refine j_cS (As := [.int p1]) (rest := []) S hL hS hA (tJ1_canEncode l kS vS p1) (va_cwS 1 S.2.2.2.2 gJ1_indexOf_4cfef_J1_canEncode_9a6ad rfl rfl rfl (by decide +kernel) ⟨Nat.le_of_ble_eq_true rfl, Nat.le_of_ble_eq_true rfl⟩) hl rfl (Nat.le_of_ble_eq_true rfl) dJ1_indexOf_4cfef_1 (fun H locs hS => ?_)
  refine lv_if_ne (tgt := 9) S.1 S.2.1 dJ1_indexOf_4cfef_4 (by decide) (fun c1 => ?_) (fun c1 => ?_)
  · have hc : ¬ p1 < 0 ∧ ¬ 255 < p1 := by
      refine ⟨fun h => c1 (by rw [if_pos h]), fun h => c1 ?_⟩
      by_cases h0 : p1 < 0
      · rw [if_pos h0]
      · rw [if_neg h0, if_pos h]
    have he : yIxS p1 = yIx p1.toInt8.toInt32 0 15 := by unfold yIxS; rw [if_neg hc.1, if_neg hc.2]
    refine lv_iload_n S.1 S.2.1 dJ1_indexOf_4cfef_9 rfl (lv_at hl 2 rfl) ?_
    refine lv_iconst (v := 0) S.1 S.2.1 dJ1_indexOf_4cfef_10 (by decide) ?_
    refine va_mmax S.1 S.2.1 (S.2.2.1.trans hl.1.symm) S.2.2.2.1 (S.2.2.2.2 _ (by decide +kernel)) (S.2.2.2.2 _ (by decide +kernel)) (S.2.2.2.2 _ (by decide +kernel)) (S.2.2.2.2 _ (by decide +kernel)) (Nat.le_of_ble_eq_true rfl) (Nat.le_of_ble_eq_true rfl) (Nat.zero_le _) (Nat.zero_le _) dJ1_indexOf_4cfef_11 ?_
    refine W.eq (g2 := F0 m 14 ls [.int 0]) rfl ?_
    refine lv_istore_n (lv' := [(2, .int 0), (0, .ref vS), (1, .int p1), (3, .int 15)]) S.1 S.2.1 dJ1_indexOf_4cfef_14 rfl hl (by decide) rfl (fun ls hl => ?_)
    refine lv_iload_n S.1 S.2.1 dJ1_indexOf_4cfef_15 rfl (lv_at hl 3 rfl) ?_
    refine lv_aload_n S.1 S.2.1 dJ1_indexOf_4cfef_16 rfl (lv_at hl 1 rfl) ?_
    refine j_len S hL hS dJ1_indexOf_4cfef_17 ?_
    refine va_mmin S.1 S.2.1 (S.2.2.1.trans hl.1.symm) S.2.2.2.1 (S.2.2.2.2 _ (by decide +kernel)) (S.2.2.2.2 _ (by decide +kernel)) (S.2.2.2.2 _ (by decide +kernel)) (S.2.2.2.2 _ (by decide +kernel)) (Nat.le_of_ble_eq_true rfl) (Nat.le_of_ble_eq_true rfl) (Nat.zero_le _) (Nat.zero_le _) dJ1_indexOf_4cfef_18 ?_
    refine W.eq (g2 := F0 m 21 ls [.int 15]) rfl ?_
    refine lv_istore_n (lv' := [(3, .int 15), (2, .int 0), (0, .ref vS), (1, .int p1)]) S.1 S.2.1 dJ1_indexOf_4cfef_21 rfl hl (by decide) rfl (fun ls hl => ?_)
    refine lv_iload_n S.1 S.2.1 dJ1_indexOf_4cfef_22 rfl (lv_at hl 1 rfl) ?_
    refine lv_iload_n S.1 S.2.1 dJ1_indexOf_4cfef_23 rfl (lv_at hl 0 rfl) ?_
    refine lv_icmp_lt (tgt := 29) S.1 S.2.1 dJ1_indexOf_4cfef_24 (by decide) (fun c2 => ?_) (fun c2 => absurd (by decide) c2)
    refine lv_aload_n S.1 S.2.1 dJ1_indexOf_4cfef_29 rfl (lv_at hl 2 rfl) ?_
    refine lv_iload_n S.1 S.2.1 dJ1_indexOf_4cfef_30 rfl (lv_at hl 3 rfl) ?_
    refine lv_iload_n S.1 S.2.1 dJ1_indexOf_4cfef_31 rfl (lv_at hl 1 rfl) ?_
    refine lv_iload_n S.1 S.2.1 dJ1_indexOf_4cfef_32 rfl (lv_at hl 0 rfl) ?_
    refine j_cS (As := [.ref vS, .int p1, .int 0, .int 15]) (rest := []) S hL hS hA (tJ1_indexOfChar l kS vS p1) (va_cwS 4 S.2.2.2.2 gJ1_indexOf_4cfef_J1_indexOfChar_4cfef rfl rfl rfl (by decide +kernel) ⟨Nat.le_of_ble_eq_true rfl, Nat.le_of_ble_eq_true rfl⟩) hl rfl (Nat.le_of_ble_eq_true rfl) dJ1_indexOf_4cfef_33 (fun H locs hS => ?_)
    exact j_ri S E rfl (by rw [he]; rfl) hS dJ1_indexOf_4cfef_36
  · have he : yIxS p1 = -1 := by
      unfold yIxS
      by_cases h0 : p1 < 0
      · rw [if_pos h0]
      · rw [if_neg h0] at c1 ⊢
        by_cases h1 : 255 < p1
        · rw [if_pos h1]
        · rw [if_neg h1] at c1
          exact absurd c1 (by decide)
    refine lv_iconst (v := -1) S.1 S.2.1 dJ1_indexOf_4cfef_7 (by decide) ?_
    exact j_ri S E rfl (by rw [he]; rfl) hS dJ1_indexOf_4cfef_8
def rmJ0_indexOf2 : Room := { frames := 2, cells := 0, slots := 0, locals := 48 }
set_option maxHeartbeats 4000000 in
theorem tJ0_indexOf2 (l : Launch) (kS vS : Nat) (p1 : Int32) : jC l yJ0_indexOf_7cf53 wsJ0_indexOf_7cf53 rmJ0_indexOf2 kS vS [.ref kS, .int p1, .int 0] (yIxS p1) := by
  refine j_of (cc := cJ0_indexOf_7cf53) (maxL := 3) (ret := some .int) (by decide) rfl (Nat.le_of_ble_eq_true rfl) ?_
  intro p e s m args below meth c A Q ls S hL hS hA E hl
  replace hl : lv_has ls 3 [(0, .ref kS), (1, .int p1), (2, .int 0)] := hl
  refine lv_aload_n S.1 S.2.1 dJ0_indexOf_7cf53_0 rfl (lv_at hl 0 rfl) ?_
  refine j_cV (As := []) (rest := []) S hL hS hA (tJ0_isLatin1 l kS vS) (cwV 0 S.2.2.2.2 gJ0_indexOf_7cf53_J0_isLatin1_aae02 rfl rfl rfl (by decide +kernel) ⟨Nat.le_of_ble_eq_true rfl, Nat.le_of_ble_eq_true rfl⟩) hl rfl (Nat.le_of_ble_eq_true rfl) dJ0_indexOf_7cf53_1 (fun H locs hS => ?_)
  refine lv_if_eq (tgt := 23) S.1 S.2.1 dJ0_indexOf_7cf53_4 (by decide) (fun c1 => absurd c1 (by decide)) (fun c1 => ?_)
  refine lv_aload_n S.1 S.2.1 dJ0_indexOf_7cf53_7 rfl (lv_at hl 0 rfl) ?_
  refine vk_getf S.1 S.2.1 hL.2.2.2.1 hS S.2.2.2.1 (S.2.2.2.2 (.fieldLink RJ0 9 "java/lang/String" "value" "[B") (by decide +kernel)) (fun _ h => h) dJ0_indexOf_7cf53_8 ?_
  refine lv_iload_n S.1 S.2.1 dJ0_indexOf_7cf53_11 rfl (lv_at hl 1 rfl) ?_
  refine lv_iload_n S.1 S.2.1 dJ0_indexOf_7cf53_12 rfl (lv_at hl 2 rfl) ?_
  refine lv_aload_n S.1 S.2.1 dJ0_indexOf_7cf53_13 rfl (lv_at hl 0 rfl) ?_
  refine j_cV (As := []) (rest := [.int 0, .int p1, .ref vS]) S hL hS hA (tJ0_length l kS vS) (cwV 0 S.2.2.2.2 gJ0_indexOf_7cf53_J0_length_8abf5 rfl rfl rfl (by decide +kernel) ⟨Nat.le_of_ble_eq_true rfl, Nat.le_of_ble_eq_true rfl⟩) hl rfl (Nat.le_of_ble_eq_true rfl) dJ0_indexOf_7cf53_14 (fun H locs hS => ?_)
  refine j_cS (As := [.ref vS, .int p1, .int 0, .int 15]) (rest := []) S hL hS hA (tJ1_indexOf l kS vS p1) (va_cwS 4 S.2.2.2.2 gJ0_indexOf_7cf53_J1_indexOf_4cfef rfl rfl rfl (by decide +kernel) ⟨Nat.le_of_ble_eq_true rfl, Nat.le_of_ble_eq_true rfl⟩) hl rfl (Nat.le_of_ble_eq_true rfl) dJ0_indexOf_7cf53_17 (fun H locs hS => ?_)
  refine lv_goto (tgt := 36) S.1 S.2.1 dJ0_indexOf_7cf53_20 (by decide) ?_
  exact j_ri S E rfl rfl hS dJ0_indexOf_7cf53_36
def rmJ0_indexOf : Room := { frames := 3, cells := 0, slots := 0, locals := 70 }
set_option maxHeartbeats 4000000 in
theorem tJ0_indexOf (l : Launch) (kS vS : Nat) (p1 : Int32) : jC l yJ0_indexOf_0f7a4 wsJ0_indexOf_0f7a4 rmJ0_indexOf kS vS [.ref kS, .int p1] (yIxS p1) := by
  refine j_of (cc := cJ0_indexOf_0f7a4) (maxL := 2) (ret := some .int) (by decide) rfl (Nat.le_of_ble_eq_true rfl) ?_
  intro p e s m args below meth c A Q ls S hL hS hA E hl
  replace hl : lv_has ls 2 [(0, .ref kS), (1, .int p1)] := hl
  refine lv_aload_n S.1 S.2.1 dJ0_indexOf_0f7a4_0 rfl (lv_at hl 0 rfl) ?_
  refine lv_iload_n S.1 S.2.1 dJ0_indexOf_0f7a4_1 rfl (lv_at hl 1 rfl) ?_
  refine lv_iconst (v := 0) S.1 S.2.1 dJ0_indexOf_0f7a4_2 (by decide) ?_
  refine j_cV (As := [.int p1, .int 0]) (rest := []) S hL hS hA (tJ0_indexOf2 l kS vS p1) (cwV 2 S.2.2.2.2 gJ0_indexOf_0f7a4_J0_indexOf_7cf53 rfl rfl rfl (by decide +kernel) ⟨Nat.le_of_ble_eq_true rfl, Nat.le_of_ble_eq_true rfl⟩) hl rfl (Nat.le_of_ble_eq_true rfl) dJ0_indexOf_0f7a4_3 (fun H locs hS => ?_)
  exact j_ri S E rfl rfl hS dJ0_indexOf_0f7a4_6
theorem yIx_256 : ∀ k, k < 256 → (yIx (nI k).toInt8.toInt32 0 15 < 0 ↔ nI k ∉ yLets) := by decide +kernel
theorem yLets_in : ∀ x ∈ yLets, ¬ x < 0 ∧ ¬ 255 < x := by decide +kernel
theorem yIxS_lt (p1 : Int32) : yIxS p1 < 0 ↔ p1 ∉ yLets := by
  unfold yIxS
  by_cases h0 : p1 < 0
  · rw [if_pos h0]
    exact ⟨fun _ h => (yLets_in _ h).1 h0, fun _ => by decide⟩
  · rw [if_neg h0]
    by_cases h1 : 255 < p1
    · rw [if_pos h1]
      exact ⟨fun _ h => (yLets_in _ h).2 h1, fun _ => by decide⟩
    · rw [if_neg h1]
      obtain ⟨k, hk, rfl⟩ := nI_of h0
      refine yIx_256 k ?_
      rcases Nat.lt_or_ge k 256 with h | h
      · exact h
      · exact absurd ((nI_ltI (a := 255) (b := k) (by omega) hk).mpr (by omega)) h1
def rmX2_isLetter : Room := { frames := 6, cells := 0, slots := 0, locals := 150 }
set_option maxHeartbeats 4000000 in
theorem tX2_isLetter (l : Launch) (D : va_G) (cI cC cZ : ClassId) (sa : Nat → Nat) (p1 res : Int32) (hf : fX2_isLetter p1 = some res) : zC l yX2_isLetter wsX2_isLetter rmX2_isLetter D sa [.int p1] (xT cI cC cZ) res := by
  intro sz
  refine Met.ofW (cc := cX2_isLetter) (maxL := 1) (ret := some .boolean) (by decide) rfl ?_
  intro p e s m args below meth c s₁ B hml hv
  obtain ⟨rfl, hsz, hK, hL⟩ := hv
  have hts := atoms_spec (ws := wsX2_isLetter) B.pre
  have hown : s.vm.findClass yX2_isLetter.cls = some m.cls := findClass_of_methodNamed B.named
  have hr := B.returns
  have hlocks := B.notSynchronized
  subst hsz
  have S : CallFix p m c cX2_isLetter 1 s #[Value.int p1] wsX2_isLetter yX2_isLetter.cls := ⟨B.exec, B.bytes, hml, hown, hts⟩
  have hA : ∀ q : Nat, s.heap.size ≤ q → va_A [] s.heap.size q := fun q h => Or.inr h
  have hS : va_S (va_A [] s.heap.size) s.heap s.heap [] := va_S.rf
  have hret : ∀ (H : Heap) (locs : List Loc) (ls : Array Slot), va_S (va_A [] s.heap.size) s.heap H locs → ∀ v : Int32, narrow .boolean (.int v) = .int res → W p l e (headSpec wsX2_isLetter rmX2_isLetter).room s m #[Value.int p1] below meth c H locs 0 0 (MQ below (xPost D [] (fun _ => []) (xT cI cC cZ) (fun t => some (.int t)) res s.heap.size) #[Value.int p1] s 0 0 (va_A [] s.heap.size)) (F0 m 14 ls [.int v]) := by
    intro H locs ls hS v hn
    refine x_nret S.1 S.2.1 hr hn (fun t ht hW => ⟨⟨rfl, fun k q h => by simp at h, va_K.moved hW.alike hK, ⟨fun i j p q h => by simp at h, fun k q h => by simp at h⟩⟩, hS.F ht⟩) hS.2.2 dX2_isLetter_14 hlocks
  show W p l e (headSpec wsX2_isLetter rmX2_isLetter).room s m #[Value.int p1] below meth c s.heap [] 0 0 (MQ below (xPost D [] (fun _ => []) (xT cI cC cZ) (fun t => some (.int t)) res s.heap.size) #[Value.int p1] s 0 0 (va_A [] s.heap.size)) (entryFrame m ([Value.int p1] : List Value).toArray 1)
  rw [lg_entry_eq]
  have hl := lv_entry ([.int p1]) (n := 1) (Nat.le_of_ble_eq_true rfl)
  generalize (lg_sl ([.int p1]) ++ List.replicate (1 - (lg_sl ([.int p1])).length) Slot.unset).toArray = ls at hl ⊢
  replace hl : lv_has ls 1 [(0, .int p1)] := hl
  refine va_ldcS S.1 S.2.1 S.2.2.2.1 hL.1 dX2_isLetter_0 ?_
  refine lv_iload_n S.1 S.2.1 dX2_isLetter_2 rfl (lv_at hl 0 rfl) ?_
  refine j_cV (As := [.int p1]) (rest := []) S hL hS hA (tJ0_indexOf l (sa 0) (sa 1) p1) (cwV 1 S.2.2.2.2 gX2_isLetter_J0_indexOf_0f7a4 rfl rfl rfl (by decide +kernel) ⟨Nat.le_of_ble_eq_true rfl, Nat.le_of_ble_eq_true rfl⟩) hl rfl (Nat.le_of_ble_eq_true rfl) dX2_isLetter_3 (fun H locs hS => ?_)
  have hres : (if p1 ∈ yLets then (1 : Int32) else 0) = res := Option.some.inj hf
  refine lv_if_lt (tgt := 13) S.1 S.2.1 dX2_isLetter_6 (by decide) (fun c1 => ?_) (fun c1 => ?_)
  · refine lv_iconst (v := 0) S.1 S.2.1 dX2_isLetter_13 (by decide) ?_
    exact hret H locs ls hS 0 (by rw [← hres, if_neg ((yIxS_lt p1).mp c1)]; exact x_n0)
  · refine lv_iconst (v := 1) S.1 S.2.1 dX2_isLetter_9 (by decide) ?_
    refine lv_goto (tgt := 14) S.1 S.2.1 dX2_isLetter_10 (by decide) ?_
    have h9 : p1 ∈ yLets := Classical.byContradiction fun h => c1 ((yIxS_lt p1).mpr h)
    exact hret H locs ls hS 1 (by rw [← hres, if_pos h9]; exact x_n1)
end YL
