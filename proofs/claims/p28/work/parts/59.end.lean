section GEND
theorem u_b1 : narrow .boolean (.int 1) = .int 1 := rfl
/-- the law's own end: true -/
theorem law_ret {p : Program} {l : Launch} {e : Env} {s : State} {m : MethodId} {args : Array Value} {below : List Frame} {meth : Method} {c : Code} {H : Heap} {locs : List Loc} {cells slots : Nat} {ls : Array Slot} (hx : p.tables.exec = Jvm.exec) (hb : c.code = cL_law) (hr : meth.sig.returnType = ret) (hlocks : meth.locks = false) (hsz : s.heap.size + 191 ≤ H.size) : W p l e R9 s m args below meth c H locs cells slots (fun t => t.status = .running ∧ Ended t below (.returned (some (.int 1))) ∧ s.heap.size + 191 ≤ t.heap.size) (F0 m 137 ls [.int 1]) := by
  intro T hT X
  obtain ⟨fs, hret, hrun, hended, hW, hframe⟩ := X.leave (v := some (.int 1)) (hlocks := hlocks) (fun h => by rw [hr] at h; cases h)
  have hmeth' : T.vm.method? m = some meth := X.method'
  refine ⟨T.setFrames fs, ?_, hrun, hended, ?_⟩
  · jvm_step X.here [X.here.top, hx, hb, dL_law_137, hmeth', hr, ret, narrow_b1]
    (try refine ⟨rfl, ?_⟩); (try refine ⟨rfl, ?_⟩)
    first | (intro acts; rw [hret _ acts rfl rfl rfl]) | rw [hret _ _ rfl rfl rfl]
    exact Steps.refl _
  · show s.heap.size + 191 ≤ T.heap.size
    rw [hT]
    exact hsz
set_option maxHeartbeats 4000000 in
set_option maxRecDepth 100000 in
theorem law_end {p : Program} {l : Launch} {e : Env} {s : State} {m : MethodId} {args : Array Value} {below : List Frame} {meth : Method} {c : Code} {D : va_G} {A : Nat → Prop} {sa : Nat → Nat} {cI cC cZ : ClassId} {h h2 : Nat} {a b d z q a2 b2 d2 z2 q2 : Nat → Nat} {b0 : Nat} {xs : Nat → Int32} (hlf : l.stackTraces = false) (S : CallFix p m c cL_law 6 s args wsL_law RL) (Z : yZ sa A s s.heap) (hX : va_X b0 101 xs s s.heap) (hbl : b0 < s.heap.size) (hbA : ¬ A b0) (hr : meth.sig.returnType = ret) (hlocks : meth.locks = false) (hxs : xs 100 = 136) {H : Heap} {locs : List Loc} {ls : Array Slot} (I : xI D A s (w2 cI cC cZ h h2 a b d z q a2 b2 d2 z2 q2) (xT cI cC cZ) H locs) (hz : s.heap.size + 220 ≤ H.size) (hl : lv_has ls 6 [(3, .int (Int32.ofNat 100)), (2, .ref h2), (1, .ref h), (0, .ref b0)]) : W p l e R9 s m args below meth c H locs (54 + 100 + 40 * (100 / 33)) (11052 + 6 * 100 + 240 * (100 / 33)) (fun t => t.status = .running ∧ Ended t below (.returned (some (.int 1))) ∧ s.heap.size + 191 ≤ t.heap.size) (F0 m 18 ls []) := by
  refine lv_iload_n S.1 S.2.1 dL_law_18 rfl (lv_at hl 0 rfl) ?_
  refine lv_bipush (v := 100) S.1 S.2.1 dL_law_19 (by decide) ?_
  refine lv_icmp_ge (tgt := 127) S.1 S.2.1 dL_law_21 (by decide) (fun _ => ?_) (fun c1 => absurd (by decide) c1)
  refine lv_aload_n S.1 S.2.1 dL_law_127 rfl (lv_at hl 2 rfl) ?_
  refine lv_aload_n S.1 S.2.1 dL_law_128 rfl (lv_at hl 3 rfl) ?_
  refine lv_bipush (v := 100) S.1 S.2.1 dL_law_129 (by decide) ?_
  refine g_cell2 (v := xs (100 : Int32).toNatClampNeg) (As := [.ref b0, .int 100]) (rest := [.ref h]) S I hX hbl hbA (tL_cell l D cI cC cZ b0 101 xs 100 (by unfold vp_in; decide) (by decide)) (va_cwS 2 S.2.2.2.2 gL_law_L_cell rfl rfl rfl (by decide +kernel) ⟨Nat.le_of_ble_eq_true rfl, Nat.le_of_ble_eq_true rfl⟩) hl rfl (Nat.le_of_ble_eq_true rfl) ⟨Nat.le_of_ble_eq_true rfl, Nat.le_of_ble_eq_true rfl⟩ dL_law_131 (fun H locs I hg => ?_)
  replace hz : s.heap.size + 220 ≤ H.size := by omega
  refine g_top (y := 136) (by rw [show (100 : Int32).toNatClampNeg = 100 by decide]; exact hxs) ?_
  refine g_sA (v := 1) (As := [.ref h, .int 136]) (rest := []) S I Z (tL_isSo l hlf sa D cI cC cZ h a b d z q) (va_cwS 2 S.2.2.2.2 gL_law_L_isSo rfl rfl rfl (by decide +kernel) ⟨Nat.le_of_ble_eq_true rfl, Nat.le_of_ble_eq_true rfl⟩) hl rfl (Nat.le_of_ble_eq_true rfl) ⟨Nat.le_of_ble_eq_true rfl, Nat.le_of_ble_eq_true rfl⟩ dL_law_134 (fun H locs I hg => ?_)
  exact law_ret S.1 S.2.1 hr hlocks (by omega)
/-- the law's run from that start, by the library's own law of a body: it ends, with true, and more than 190 new cells lie in the heap -/
theorem f9_met : MetFree launch0 x (headSpec (Cond.code x code maxLocals ret :: tables_1) R9) (fun args s => args = start1.args0 ∧ s = f9_s) (fun _ _ _ _ _ => True) (fun _ s o t => o = .returned (some (.int 1)) ∧ s.heap.size + 191 ≤ t.heap.size) := by
  refine MetFree.of_bodyS (code := code) (maxLocals := maxLocals) (ret := ret) (by decide) ?_ ?_
  · intro args s m h hn
    obtain ⟨meth, c, h1, h2, h3, h4, h5, h6, -, -⟩ := Cond.code_spec hn (atoms_spec (ws := Jvm.Cond.code x code maxLocals ret :: tables_1) h _ List.mem_cons_self)
    exact ⟨meth, c, h1, h2, h3, h4, h5, h6⟩
  · intro p e s m args below meth c s₁ B hml hP _
    obtain ⟨rfl, rfl⟩ := hP
    have hts : ∀ w ∈ lw_tbl, w.before #[Value.ref 0] f9_s = true := k2_hts_sels lw_privs (fun w hw => f9_all w (List.mem_cons_of_mem _ hw)) lw_privs_ok
    have hown : f9_s.vm.findClass RL = some m.cls := findClass_of_methodNamed B.named
    have hh0 : s₁.heap = f9_s.heap := by rw [B.state]; rfl
    have hA0 : ∀ q : Nat, q < f9_s.heap.size → ¬ f9_s.heap.size ≤ q := fun q hq => Nat.not_le.mpr hq
    obtain ⟨sa, Z⟩ := st_Z (b := 0) (s := f9_s) (A := fun q : Nat => f9_s.heap.size ≤ q) hts f9_pre hA0
    obtain ⟨D, cI, cC, cZ, hK⟩ := st_K (b := 0) (s := f9_s) hts
    have S : CallFix p m c cL_law 6 f9_s #[Value.ref 0] wsL_law RL := ⟨B.exec, B.bytes, hml, hown, fun w h => hts w (wsL_law_in w h)⟩
    have K := law_walk (l := launch0) (e := e) (below := below) (meth := meth) f9_lf S Z hK (fun w hw => va_Nw.of (st_nestsT w hw) (hts w (st_nests w hw))) f9_script (by decide) (fun _ _ => rfl) (Q := fun t => t.status = .running ∧ Ended t below (.returned (some (.int 1))) ∧ f9_s.heap.size + 191 ≤ t.heap.size)
      (fun h h2 a b d z q a2 b2 d2 z2 q2 H locs ls I hs hl => law_end f9_lf S Z f9_script (by decide) (by decide) B.returns B.notSynchronized rfl I hs hl)
    obtain ⟨t, a1, b1, b2, b3⟩ := K s₁ hh0 (Stand.of_body B)
    exact ⟨t, _, a1, b1, b2, rfl, b3⟩
theorem f9_run : ∃ n : Nat, (∀ k, k < n → Within (stepsAlone start1.p0.tables start1.e0 k f9_s) Lib.HandBits.below0) ∧ (stepsAlone start1.p0.tables start1.e0 n f9_s).status = .running ∧ Ended (stepsAlone start1.p0.tables start1.e0 n f9_s) Lib.HandBits.below0 (.returned (some (.int 1))) ∧ f9_s.heap.size + 191 ≤ (stepsAlone start1.p0.tables start1.e0 n f9_s).heap.size := by
  obtain ⟨n, o, w1, h1, h2, rfl, h3⟩ := f9_met start1.p0 start1.e0 (launch0.admits_env _ _ _) fairChoices_fair.cas fairChoices_fair.clock f9_s ⟨0, 0⟩ start1.args0 Lib.HandBits.below0 rfl ((Spec.applies_iff_loose (m := ⟨0, 0⟩) (args := start1.args0) (below := Lib.HandBits.below0) rfl).mp f9_app9).1 ⟨rfl, rfl⟩ trivial
  exact ⟨n, w1, h1, h2, h3⟩
theorem f9_start : AtStart classFile x code maxLocals ret World_1 tables_1 room_1 Calls_1 rest_1 Pre_1 launch0 start1.p0 start1.e0 f9_s ⟨0, 0⟩ start1.args0 Lib.HandBits.below0 :=
  ⟨lists_1, trivial, launch0.admits_env _ _ _, launch0.least_env, fairChoices_fair.cas, fairChoices_fair.clock, rfl, by decide +kernel, by decide +kernel, f9_app1, trivial, f9_rest, f9_pre⟩
/-- the refutation in the form that the statement's own file prints for it; 'the law answers true there' is part of the proof -/
theorem p28_refuted : RefutedClaimed_1_1 ∧ RefutedClaimed_1_2 := by
  obtain ⟨n, w1, h1, h2, h3⟩ := f9_run
  constructor
  · refine ⟨launch0, start1.p0, start1.e0, f9_s, ⟨0, 0⟩, start1.args0, Lib.HandBits.below0, rfl, f9_start, n, _, w1, h1, h2, fun h => ?_⟩
    have h5 : (stepsAlone start1.p0.tables start1.e0 n f9_s).heap.size ≤ f9_s.heap.size + 190 := h.2.2.2.2.2.1
    omega
  · refine ⟨launch0, start1.p0, start1.e0, f9_s, ⟨0, 0⟩, start1.args0, Lib.HandBits.below0, rfl, f9_start, n, _, w1, h1, h2, fun h => ?_⟩
    have h5 : (stepsAlone start1.p0.tables start1.e0 n f9_s).heap.size ≤ f9_s.heap.size + 190 := h.2.2.2.2.2.1
    omega
/-- so neither half of the statement holds -/
theorem f9_no {limb : Cond} : ¬ ArmFor flags0 classFile x code maxLocals ret World_1 tables_1 room_1 Calls_1 rest_1 Pre_1 (fun tb e a s o t => postC limb tb e a s o t ∧ Framed s o t (fieldLocs frame_1_writes a s ++ arrayLocs frame_1_arrays a s ++ staticLocs frame_1_statics s) 190 12076) := by
  intro h
  obtain ⟨n', o', w', -, g2, -, g4⟩ := h launch0 rfl lists_1 trivial start1.p0 start1.e0 (launch0.admits_env _ _ _) fairChoices_fair.cas fairChoices_fair.clock f9_s ⟨0, 0⟩ start1.args0 Lib.HandBits.below0 rfl (by decide +kernel) (by decide +kernel) f9_app1 ⟨trivial, f9_rest, f9_pre⟩
  obtain ⟨n, w1, -, h2, h3⟩ := f9_run
  obtain ⟨rfl, -⟩ := the_end_unique (f := fun k => stepsAlone start1.p0.tables start1.e0 k f9_s) w' g2 w1 h2
  have h5 : (stepsAlone start1.p0.tables start1.e0 n' f9_s).heap.size ≤ f9_s.heap.size + 190 := g4.2.2.2.2.1
  omega
theorem p28_false : (¬ Claimed_1_1) ∧ ¬ Claimed_1_2 := ⟨f9_no, f9_no⟩
end GEND
