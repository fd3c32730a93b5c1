section LC
/-! the law: its script, its row of one long, the calls of its helpers, of the model, of the class -/
section LW
variable {p : Program} {l : Launch} {e : Env} {R : Room} {s : State} {m : MethodId} {args : Array Value} {below : List Frame} {meth : Method} {c : Code} {H : Heap} {locs : List Loc} {cells slots : Nat} {Q : State → Prop}
variable {cc : ByteArray} {D : va_G} {A : Nat → Prop} {tys : List (ClassId × FieldType)} {ws ws' : va_W} {nL : Nat} {Ts : List Cond} {own : String} {pc : Nat} {ls : Array Slot} {rest : List Value} {a : Nat} {sa : Nat → Nat}
theorem l_sld (S : CallFix p m c cc nL s args Ts own) (I : xI D A s ws tys H locs) {b L : Nat} {xs : Nat → Int32} (hX : va_X b L xs s s.heap) (hbl : b < s.heap.size) (hbA : ¬ A b) {i : Int32} (hin : vp_in i L) (hdg : decode cc pc = .ok (.iaload, 1))
    (kk : W p l e R s m args below meth c H locs cells slots Q (F0 m (pc + 1) ls (.int (xs i.toNatClampNeg) :: rest))) : W p l e R s m args below meth c H locs cells slots Q (F0 m pc ls (.int i :: .ref b :: rest)) :=
  va_sld S.1 S.2.1 hX hbl hbA I.2.2.2.1 hin hdg kk
theorem l_slen (S : CallFix p m c cc nL s args Ts own) (I : xI D A s ws tys H locs) {b L : Nat} {xs : Nat → Int32} (hX : va_X b L xs s s.heap) (hbl : b < s.heap.size) (hbA : ¬ A b) (hdg : decode cc pc = .ok (.arraylength, 1))
    (kk : W p l e R s m args below meth c H locs cells slots Q (F0 m (pc + 1) ls (.int (Int32.ofNat L) :: rest))) : W p l e R s m args below meth c H locs cells slots Q (F0 m pc ls (.ref b :: rest)) :=
  va_slen S.1 S.2.1 hX hbl hbA I.2.2.2.1 hdg kk
theorem l_lald (S : CallFix p m c cc nL s args Ts own) (I : xI D A s ws tys H locs) (q0 t0 : Nat) {cA : ClassId} {n : Nat} {f : Nat → Int64} (ha : ws[q0]? = some (a, .inl (cA, n, .inr (.inl f)))) (ht : tys[t0]? = some (cA, .long)) {i : Int32} (hin : vp_in i n) (hdg : decode cc pc = .ok (.laload, 1))
    (kk : W p l e R s m args below meth c H locs cells slots Q (F0 m (pc + 1) ls (.long (f i.toNatClampNeg) :: rest))) : W p l e R s m args below meth c H locs cells slots Q (F0 m pc ls (.int i :: .ref a :: rest)) :=
  va_lald S.1 S.2.1 I.2.2.1 I.1 q0 t0 ha ht hin hdg kk
theorem l_back {τ : Type} {wc : va_W} {wcF : τ → va_W} {ovF : τ → Option Value} {res : τ} {Aa : Array Value} {st0 : List Value} {tysC : List (ClassId × FieldType)} {mc ms : Nat} (I : xI D A s ws tys H locs)
    (isC isR perm : List Nat) (hC1 : isC.map (fun i => ws[i]?) = wc.map some) (hR1 : isR.map (fun i => ws[i]?) = (isR.filterMap (fun i => ws[i]?)).map some) (hnR : va_nd isR = true) (hdis : ∀ i ∈ isR, i ∉ isC)
    (hp1 : perm.filterMap (fun i => (isR.filterMap (fun i => ws[i]?) ++ wcF res)[i]?) = ws') (hp2 : perm.map (fun i => (isR.filterMap (fun i => ws[i]?) ++ wcF res)[i]?) = ws'.map some) (hpn : va_nd perm = true)
    (hr : va_Run p l e R s m args below meth c H locs cells slots mc ms (F0 m pc ls st0) rest (xPost D wc wcF tysC ovF res H.size Aa) (va_A wc H.size))
    (kk : ∀ (H1 : Heap) (locs1 : List Loc), xI D A s ws' tys H1 locs1 → W p l e R s m args below meth c H1 locs1 (cells + mc) (slots + ms) Q (F0 m (pc + 3) ls ((ovF res).toList ++ rest))) : W p l e R s m args below meth c H locs cells slots Q (F0 m pc ls st0) := by
  obtain ⟨iP, iD, iK, iS, iA, iN⟩ := I
  have hF := va_free (wc := wc) iD iS iA isC hC1
  intro T hT X
  obtain ⟨v, st₀, t, T', L, h0, X', hL, e1, e2, ⟨⟨hv, hP1, hK1, hD1⟩, hz, hk⟩, st⟩ := hr T hT X
  cases hv
  rw [h0] at hz hk
  rw [← e1] at hP1 hk hz
  obtain ⟨jP, jD⟩ := va_join (wr := isR.filterMap (fun i => ws[i]?)) iP iD isC isR hC1 hR1 hnR hdis (fun q h1 h2 => hk q h1 h2) hF hP1 hD1
  obtain ⟨t2, a1, b1⟩ := kk T'.heap (locs ++ L) ⟨jP.sub perm hp1, jD.sub perm hpn hp2, iK,
    ⟨Nat.le_trans iS.1 hz, fun q h1 h2 => by rw [hk q (Nat.lt_of_lt_of_le h1 iS.1) (fun z => h2 (hF q z))]; exact iS.2.1 q h1 h2, fun q hq => by
      rcases List.mem_append.mp hq with h | h
      · exact iS.2.2 q h
      · exact hF _ (hL q h)⟩, iA, iN⟩ T' rfl X'
  exact ⟨t2, st t2 a1, b1⟩
variable {y : MethodName} {bytes : ByteArray} {maxL n index : Nat} {ret : Option FieldType} {wsY : List Cond} {rm : Room} {C : String} {b : Addr} {As : List Value} {lv : List (Nat × Value)} {st' : List Value} {tysC : List (ClassId × FieldType)} {wc : va_W} {hh : List (Nat × Nat × Nat × Nat)}
theorem l_cV {τ : Type} {wcF : τ → va_W} {ovF : τ → Option Value} {res : τ} (S : CallFix p m c cc nL s args Ts own) (I : xI D A s ws tys H locs) (isT : List Nat) (hT : isT.filterMap (fun i => tys[i]?) = tysC)
    (hC : xC l y wsY rm D (.ref b :: As) wc wcF tysC ovF res) (cw : CallW R s args own C index y bytes maxL ret wsY rm 0 0 n)
    (q0 ci : Nat) {q : vw_C} {fs : List Value} (hci : vwCl[ci]? = some q) (hqC : q.1 = C) (hq0 : ws[q0]? = some (b, .inr (ci, fs)))
    (isC isR perm : List Nat) (hC1 : isC.map (fun i => ws[i]?) = wc.map some) (hnC : va_nd isC = true) (hR1 : isR.map (fun i => ws[i]?) = (isR.filterMap (fun i => ws[i]?)).map some) (hnR : va_nd isR = true) (hdis : ∀ i ∈ isR, i ∉ isC)
    (hp1 : perm.filterMap (fun i => (isR.filterMap (fun i => ws[i]?) ++ wcF res)[i]?) = ws') (hp2 : perm.map (fun i => (isR.filterMap (fun i => ws[i]?) ++ wcF res)[i]?) = ws'.map some) (hpn : va_nd perm = true)
    (hl : lv_has ls nL lv) (hn : As.length = n) (hroom : (rest.map fun v => v.category).sum ≤ 8) (hcs : cells ≤ R.cells ∧ slots ≤ R.slots) (hst' : (ovF res).toList ++ rest = st') (hdg : decode cc pc = .ok (.invokevirtual index, 3))
    (kk : ∀ (H1 : Heap) (locs1 : List Loc), xI D A s ws' tys H1 locs1 → W p l e R s m args below meth c H1 locs1 cells slots Q (F0 m (pc + 3) ls st')) :
    W p l e R s m args below meth c H locs cells slots Q (F0 m pc ls (As.reverse ++ .ref b :: rest)) := by
  subst hst'
  exact l_back I isC isR perm hC1 hR1 hnR hdis hp1 hp2 hpn (va_runV (As := As) (rest := rest) S (hC H.size) cw ⟨x_blind D _ wc tysC H.size, by rw [← hqC]; exact va_recv I.2.2.1 I.1 hci hq0, k_pre I isT hT isC hC1 hnC⟩ rfl hn hl.1 rfl (lv_room hroom) hdg hcs) kk
/-- a call of one of the law's helpers -/
theorem l_cS {τ : Type} {wcG : Int32 × τ → va_W} {res : Int32 × τ} (S : CallFix p m c cc nL s args Ts own) (I : xI D A s ws tys H locs) (Z : yZ sa A s s.heap)
    (hC : wC l y wsY rm D sa As wc wcG tys res) (cw : vx_CSW R s args own index y bytes maxL ret hh wsY rm 1 6 n)
    (isC isR perm : List Nat) (hC1 : isC.map (fun i => ws[i]?) = wc.map some) (hnC : va_nd isC = true) (hR1 : isR.map (fun i => ws[i]?) = (isR.filterMap (fun i => ws[i]?)).map some) (hnR : va_nd isR = true) (hdis : ∀ i ∈ isR, i ∉ isC)
    (hp1 : perm.filterMap (fun i => (isR.filterMap (fun i => ws[i]?) ++ wcG res)[i]?) = ws') (hp2 : perm.map (fun i => (isR.filterMap (fun i => ws[i]?) ++ wcG res)[i]?) = ws'.map some) (hpn : va_nd perm = true)
    (hl : lv_has ls nL lv) (hn : As.length = n) (hroom : (rest.map fun v => v.category).sum ≤ 8) (hcs : cells + 1 ≤ R.cells ∧ slots + 6 ≤ R.slots) (hdg : decode cc pc = .ok (.invokestatic index, 3))
    (kk : ∀ (H1 : Heap) (locs1 : List Loc), xI D A s ws' tys H1 locs1 → W p l e R s m args below meth c H1 locs1 (cells + 1) (slots + 6) Q (F0 m (pc + 3) ls (.int res.1 :: rest))) :
    W p l e R s m args below meth c H locs cells slots Q (F0 m pc ls (As.reverse ++ rest)) := by
  have hF := va_free (wc := wc) I.2.1 I.2.2.2.1 I.2.2.2.2.1 isC hC1
  have hpre : ∀ U : State, U.heap = H → s.WarmedH U.vm → yPre D sa As wc tys H.size As.toArray U := by
    obtain ⟨iP, iD, iK, iS, iA, iN⟩ := id I
    intro U hU hW
    refine ⟨rfl, by rw [hU], ?_, va_K.moved hW.alike iK, (iD.sub isC hnC hC1).weaken (fun _ _ _ _ => trivial), xN_warm hW iN, by rw [hU]; exact yZ_go hW (fun a h1 h2 => iS.2.1 a h1 h2) hF Z⟩
    rw [hU]
    refine iP.sub isC ?_
    have h := congrArg (fun z => z.filterMap id) hC1
    simpa [List.filterMap_map, Function.comp_def] using h
  exact l_back I isC isR perm hC1 hR1 hnR hdis hp1 hp2 hpn (vx_runSW (As := As) (rest := rest) (g := F0 m pc ls (As.reverse ++ rest)) S (hC H.size) cw ⟨y_blind D sa _ wc tys H.size, hpre⟩ rfl hn hl.1 rfl (lv_room hroom) hdg hcs) kk
end LW
end LC
