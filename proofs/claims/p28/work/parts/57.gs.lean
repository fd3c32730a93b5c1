section GS
theorem g_pi : fX5_pi xFp0 xG0 = some (-1) := by rw [fX5_pi_e, x_b1I g_isF, if_pos rfl]
theorem g_has136 : fX5_has 3 136 = some (0, 0) := by decide +kernel
theorem g_has173 : fX5_has 3 173 = some (0, 1) := by decide +kernel
theorem g_has210 : fX5_has 3 210 = some (0, 1) := by decide +kernel
theorem g_has247 : fX5_has 3 247 = some (0, 1) := by decide +kernel
theorem g_has28 : fX5_has 3 28 = some (0, 0) := by decide +kernel
theorem g_has65 : fX5_has 3 65 = some (0, 0) := by decide +kernel
theorem g_has211 : fX5_has 3 211 = some (0, 1) := by decide +kernel
theorem g_hasAnew136 : fX5_hasAnew 3 136 = some (0, 0) := by decide +kernel
theorem g_hasAnew173 : fX5_hasAnew 3 173 = some (0, 1) := by decide +kernel
theorem g_hasAnew210 : fX5_hasAnew 3 210 = some (0, 1) := by decide +kernel
theorem g_hasAnew247 : fX5_hasAnew 3 247 = some (0, 1) := by decide +kernel
theorem g_hasAnew28 : fX5_hasAnew 3 28 = some (0, 0) := by decide +kernel
theorem g_hasAnew65 : fX5_hasAnew 3 65 = some (0, 0) := by decide +kernel
section GW
variable {p : Program} {l : Launch} {e : Env} {R : Room} {s : State} {m : MethodId} {args : Array Value} {below : List Frame} {meth : Method} {c : Code} {H : Heap} {locs : List Loc} {cells slots : Nat} {Q : State → Prop}
section GR
variable {cc : ByteArray} {D : va_G} {A : Nat → Prop} {wc : va_W} {tys : List (ClassId × FieldType)} {ws : va_W} {nL : Nat} {Ts : List Cond} {own : String} {sa : Nat → Nat} {v : Int32} {g mc ms : Nat} {hh : List (Nat × Nat × Nat × Nat)} {ret : Option FieldType} {pc : Nat} {ls : Array Slot} {rest : List Value}
variable {y : MethodName} {bytes : ByteArray} {maxL n index : Nat} {retY : Option FieldType} {wsY : List Cond} {rm : Room} {As : List Value} {lv : List (Nat × Value)} {C : String} {b : Addr}
/-- a call of a method of the class that might throw, answers and leaves its world as it is -/
theorem g_cVy {τ : Type} {wcC : va_W} {wcG : Int32 × τ → va_W} {tysC : List (ClassId × FieldType)} {ovF : Int32 × τ → Option Value} {resC : Int32 × τ} {ex : Int32 → String} (S : CallFix p m c cc nL s args Ts own) (I : xI D A s ws tys H locs) (Z : yZ sa A s s.heap) (isT : List Nat) (hT : isT.filterMap (fun i => tys[i]?) = tysC)
    (hC : yC l y wsY rm ex D sa (.ref b :: As) wcC wcG tysC ovF resC) (hans : resC.1 = 0) (hov : ovF resC = some (.int v)) (hwG : wcG resC = wcC) (cw : CallW R s args own C index y bytes maxL retY wsY rm 1 6 n)
    (q0 ci : Nat) {q : vw_C} {fs : List Value} (hci : vwCl[ci]? = some q) (hqC : q.1 = C) (hq0 : ws[q0]? = some (b, .inr (ci, fs)))
    (isC isR perm : List Nat) (hC1 : isC.map (fun i => ws[i]?) = wcC.map some) (hnC : va_nd isC = true) (hR1 : isR.map (fun i => ws[i]?) = (isR.filterMap (fun i => ws[i]?)).map some) (hnR : va_nd isR = true) (hdis : ∀ i ∈ isR, i ∉ isC)
    (hp1 : perm.filterMap (fun i => (isR.filterMap (fun i => ws[i]?) ++ wcC)[i]?) = ws) (hp2 : perm.map (fun i => (isR.filterMap (fun i => ws[i]?) ++ wcC)[i]?) = ws.map some) (hpn : va_nd perm = true)
    (hl : lv_has ls nL lv) (hn : As.length = n) (hroom : (rest.map fun v => v.category).sum ≤ 8) (hcs : cells + 1 ≤ R.cells ∧ slots + 6 ≤ R.slots) (hdg : decode cc pc = .ok (.invokevirtual index, 3))
    (kk : ∀ (H1 : Heap) (locs1 : List Loc), xI D A s ws tys H1 locs1 → H.size + 0 ≤ H1.size → W p l e R s m args below meth c H1 locs1 (cells + 1) (slots + 6) Q (F0 m (pc + 3) ls (.int v :: rest))) :
    W p l e R s m args below meth c H locs cells slots Q (F0 m pc ls (As.reverse ++ .ref b :: rest)) := by
  obtain ⟨iP, iD, iK, iS, iA, iN⟩ := id I
  have hF := va_free (wc := wcC) iD iS iA isC hC1
  have hpre : ∀ U : State, U.heap = H → s.WarmedH U.vm → yPre D sa (.ref b :: As) wcC tysC H.size (Value.ref b :: As).toArray U := by
    intro U hU hW
    refine ⟨rfl, by rw [hU], ?_, va_K.moved hW.alike (iK.sub isT hT), (iD.sub isC hnC hC1).weaken (fun _ _ _ _ => trivial), xN_warm hW iN, by rw [hU]; exact yZ_go hW (fun a h1 h2 => iS.2.1 a h1 h2) hF Z⟩
    rw [hU]
    refine iP.sub isC ?_
    have h := congrArg (fun z => z.filterMap id) hC1
    simpa [List.filterMap_map, Function.comp_def] using h
  have hr : vx_Run p l e R s m args below meth c H locs cells slots 1 6 (F0 m pc ls (As.reverse ++ .ref b :: rest)) rest (yPost D wcC wcG tysC ovF resC H.size (Value.ref b :: As).toArray) (yX ex D wcC wcG tysC resC H.size) (va_A wcC H.size) :=
    vx_runV (As := As) (rest := rest) S (hC H.size) cw ⟨y_blind D sa _ wcC tysC H.size, by rw [← hqC]; exact va_recv iK iP hci hq0, hpre⟩ rfl hn hl.1 rfl (lv_room hroom) hdg hcs
  intro T hT9 X
  rcases hr T hT9 X with ⟨v9, st₀, t, T', L, h0, X', hL, e1, e2, ⟨⟨h00, hv, hP1, hK1, hD1⟩, hz, hk⟩, st⟩ | ⟨q9, st₀, t, T', L, E9, ce, h0, X', hL, e1, e2, ⟨⟨⟨h00, hE9, hP1, hK1, hD1⟩, hz, hk⟩, hg⟩, hce, hcv, hcl, st⟩
  · rw [hov] at hv
    cases hv
    rw [hwG] at hP1 hD1
    rw [h0] at hz hk
    rw [← e1] at hP1 hk hz
    obtain ⟨jP, jD⟩ := va_join (wr := isR.filterMap (fun i => ws[i]?)) iP iD isC isR hC1 hR1 hnR hdis (fun q h1 h2 => hk q h1 h2) hF hP1 hD1
    obtain ⟨t2, a1, b1⟩ := kk T'.heap (locs ++ L) ⟨jP.sub perm hp1, jD.sub perm hpn hp2, iK,
      ⟨Nat.le_trans iS.1 hz, fun q h1 h2 => by rw [hk q (Nat.lt_of_lt_of_le h1 iS.1) (fun z => h2 (hF q z))]; exact iS.2.1 q h1 h2, fun q hq => by
        rcases List.mem_append.mp hq with h | h
        · exact iS.2.2 q h
        · exact hF _ (hL q h)⟩, iA, iN⟩ hz T' rfl X'
    exact ⟨t2, st t2 a1, b1⟩
  · exact absurd hans h00
section GS5
variable {cI cC cZ : ClassId} {h : Nat} {a0 b0 d z q : Nat → Nat}
set_option maxHeartbeats 4000000 in
set_option maxRecDepth 100000 in
theorem g_v5 {τ : Type} {wcF : τ → va_W} {ovF : τ → Option Value} {res : τ} (S : CallFix p m c cc nL s args Ts own) (I : xI D A s (w5 cI cC cZ h a0 b0 d z q) (xT cI cC cZ) H locs) (hC : xC l y wsY rm D (.ref h :: As) (w5 cI cC cZ h a0 b0 d z q) wcF (xT cI cC cZ) ovF res) (hwF : wcF res = (w5 cI cC cZ h a0 b0 d z q)) (hov : ovF res = some (.int v)) (cw : CallW R s args own RX5 index y bytes maxL retY wsY rm 0 0 n) (hl : lv_has ls nL lv) (hn : As.length = n) (hroom : (rest.map fun v => v.category).sum ≤ 8) (hcs : cells ≤ R.cells ∧ slots ≤ R.slots) (hdg : decode cc pc = .ok (.invokevirtual index, 3)) (kk : ∀ (H1 : Heap) (locs1 : List Loc), xI D A s (w5 cI cC cZ h a0 b0 d z q) (xT cI cC cZ) H1 locs1 → H.size + 0 ≤ H1.size → W p l e R s m args below meth c H1 locs1 cells slots Q (F0 m (pc + 3) ls (.int v :: rest))) : W p l e R s m args below meth c H locs cells slots Q (F0 m pc ls (As.reverse ++ .ref h :: rest)) :=
  g_cV S I [0, 1, 2] rfl hC hwF hov cw 0 4 rfl rfl rfl [0, 1, 2, 3, 4, 5, 6, 7, 8, 9, 10, 11, 12, 13, 14, 15, 16, 17, 18, 19, 20, 21, 22, 23, 24, 25, 26] [] [0, 1, 2, 3, 4, 5, 6, 7, 8, 9, 10, 11, 12, 13, 14, 15, 16, 17, 18, 19, 20, 21, 22, 23, 24, 25, 26] rfl rfl rfl rfl (by decide) rfl rfl rfl hl hn hroom hcs hdg kk
set_option maxHeartbeats 4000000 in
set_option maxRecDepth 100000 in
theorem g_y5 {τ : Type} {wcG : Int32 × τ → va_W} {ovF : Int32 × τ → Option Value} {resC : Int32 × τ} {ex : Int32 → String} (S : CallFix p m c cc nL s args Ts own) (I : xI D A s (w5 cI cC cZ h a0 b0 d z q) (xT cI cC cZ) H locs) (Z : yZ sa A s s.heap) (hC : yC l y wsY rm ex D sa (.ref h :: As) (w5 cI cC cZ h a0 b0 d z q) wcG (xT cI cC cZ) ovF resC) (hans : resC.1 = 0) (hov : ovF resC = some (.int v)) (hwG : wcG resC = (w5 cI cC cZ h a0 b0 d z q)) (cw : CallW R s args own RX5 index y bytes maxL retY wsY rm 1 6 n) (hl : lv_has ls nL lv) (hn : As.length = n) (hroom : (rest.map fun v => v.category).sum ≤ 8) (hcs : cells + 1 ≤ R.cells ∧ slots + 6 ≤ R.slots) (hdg : decode cc pc = .ok (.invokevirtual index, 3)) (kk : ∀ (H1 : Heap) (locs1 : List Loc), xI D A s (w5 cI cC cZ h a0 b0 d z q) (xT cI cC cZ) H1 locs1 → H.size + 0 ≤ H1.size → W p l e R s m args below meth c H1 locs1 (cells + 1) (slots + 6) Q (F0 m (pc + 3) ls (.int v :: rest))) : W p l e R s m args below meth c H locs cells slots Q (F0 m pc ls (As.reverse ++ .ref h :: rest)) :=
  g_cVy S I Z [0, 1, 2] rfl hC hans hov hwG cw 0 4 rfl rfl rfl [0, 1, 2, 3, 4, 5, 6, 7, 8, 9, 10, 11, 12, 13, 14, 15, 16, 17, 18, 19, 20, 21, 22, 23, 24, 25, 26] [] [0, 1, 2, 3, 4, 5, 6, 7, 8, 9, 10, 11, 12, 13, 14, 15, 16, 17, 18, 19, 20, 21, 22, 23, 24, 25, 26] rfl rfl rfl rfl (by decide) rfl rfl rfl hl hn hroom hcs hdg kk
end GS5
end GR
end GW
end GS
