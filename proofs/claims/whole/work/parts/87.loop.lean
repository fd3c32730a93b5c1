section LOOP
theorem l_head {L k : Nat} (hL : L ≤ 2560) (hk : 5 * k ≤ L) (h : ¬ (nI L - 5 < nI (5 * k))) : 5 * k + 5 ≤ L := by
  rcases Nat.lt_or_ge L 5 with h5 | h5
  · exfalso
    have hk0 : k = 0 := by omega
    subst hk0
    apply h
    rcases (show L = 0 ∨ L = 1 ∨ L = 2 ∨ L = 3 ∨ L = 4 by omega) with rfl | rfl | rfl | rfl | rfl <;> decide
  · obtain ⟨j, rfl⟩ := Nat.exists_eq_add_of_le h5
    have e : nI (5 + j) - 5 = nI j := by
      rw [Nat.add_comm, ← nI_add]
      exact Int32.add_sub_cancel (nI j) 5
    rw [e] at h
    have h2 : ¬ j < 5 * k := fun z => h (nI_lt z (by omega))
    omega
theorem l_in {L k j : Nat} (hL : L ≤ 2560) (h : 5 * k + 5 ≤ L) (hj : j < 5) : vp_in (nI (5 * k) + nI j) L := by
  rw [nI_add]
  exact vp_in_nI (by omega) (by omega)

set_option maxHeartbeats 4000000 in
set_option maxRecDepth 100000 in
theorem tLaw_loop (LR : LRt) (o0 : oL_letter LR) (o1 : oL_blank LR) (o2 : oL_fault LR) (o3 : oL_sigma LR) (o4 : oL_pi LR) (o5 : oL_free LR) (o6 : oL_isSo LR) (o7 : oL_principle LR) (o8 : oL_rule LR) (o9 : oL_model LR) (o10 : oL_proves LR) (o11 : oL_proof LR) (o12 : oL_known LR) (o13 : oL_open LR) (o14 : oL_least LR) (o15 : oL_leastAnew LR) (o16 : oL_ofPrinciple LR) (o17 : oL_problem LR) (o18 : oL_product LR) (o19 : oL_reduces LR) (o20 : oL_reducesAnew LR) (o21 : oL_forth LR) (o22 : oL_ofProblem LR) (o23 : oL_has LR) (o24 : oL_hasAnew LR) (l : Launch) (hlf : l.stackTraces = false) (sa : Nat → Nat) (D : va_G) (cI cC cZ cL : ClassId) (h o hm : Nat) (a b d z q am : Nat → Nat) {p : Program} {e : Env} {s : State} {m : MethodId} {args : Array Value} {below : List Frame} {meth : Method} {c : Code} {A : Nat → Prop} {Q : State → Prop} {b0 L : Nat} {xs : Nat → Int32} (S : CallFix p m c cL_law 7 s args wsL_law RL) (Z : yZ sa A s s.heap) (hX : va_X b0 L xs s s.heap) (hbl : b0 < s.heap.size) (hbA : ¬ A b0) (hL : L ≤ 2560)
    (hend : ∀ (k : Nat) (H : Heap) (locs : List Loc) (ls : Array Slot), k ≤ 512 → (∀ q ∈ locs, A q.base) → W p l e room_1 s m args below meth c H locs (52 + k) (11300 + 6 * k) Q (F0 m 1551 ls [])) :
    ∀ (n k : Nat), n + k = 513 → 5 * k ≤ L → ∀ (Fp : xF) (Gp : xG) (Fo : xF) (Go : xG) (Fz : xF) (Gz : xG) (Fq : xF) (Gq : xG) (f : Nat → Int64) (F : xF) (G : xG), LR Fp Gp Fo Go Fz Gz Fq Gq F G → ∀ (H : Heap) (locs : List Loc) (ls : Array Slot), xI D A s (wL cI cC cZ cL h a b d z q Fp Gp Fo Go Fz Gz Fq Gq o f hm am F G) (xTL cI cC cZ cL) H locs → lv_has ls 7 [(4, .int (nI (5 * k))), (3, .ref o), (2, .ref hm), (1, .ref h), (0, .ref b0)] → W p l e room_1 s m args below meth c H locs (52 + k) (11300 + 6 * k) Q (F0 m 23 ls []) := by
  intro n
  induction n with
  | zero => intro k hn hk; omega
  | succ n ih =>
    intro k hn hk Fp Gp Fo Go Fz Gz Fq Gq f F G hLR H locs ls I hl
    refine lv_iload S.1 S.2.1 dL_law_23 (lv_at hl 0 rfl) ?_
    refine lv_aload_n S.1 S.2.1 dL_law_25 rfl (lv_at hl 4 rfl) ?_
    refine l_slen S I hX hbl hbA dL_law_26 ?_
    refine lv_iconst (v := 5) S.1 S.2.1 dL_law_27 (by decide) ?_
    refine lv_isub S.1 S.2.1 dL_law_28 ?_
    refine lv_icmp_gt (tgt := 1551) S.1 S.2.1 dL_law_29 (by decide) (fun c1 => hend k H locs ls (by omega) I.2.2.2.1.2.2) (fun c1 => ?_)
    have h5 : 5 * k + 5 ≤ L := l_head hL hk c1
    have hcs : 52 + k + 1 ≤ 1108 ∧ 11300 + 6 * k + 6 ≤ 19580 := ⟨by omega, by omega⟩
    have hi1 : vp_in (nI (5 * k) + 1) L := l_in hL h5 (j := 1) (by decide)
    have hi2 : vp_in (nI (5 * k) + 2) L := l_in hL h5 (j := 2) (by decide)
    have hi3 : vp_in (nI (5 * k) + 3) L := l_in hL h5 (j := 3) (by decide)
    have hi4 : vp_in (nI (5 * k) + 4) L := l_in hL h5 (j := 4) (by decide)
    refine lv_aload_n S.1 S.2.1 dL_law_32 rfl (lv_at hl 4 rfl) ?_
    refine lv_iload S.1 S.2.1 dL_law_33 (lv_at hl 0 rfl) ?_
    refine l_sld S I hX hbl hbA (vp_in_nI (by omega) (by omega)) dL_law_35 ?_
    refine lv_bipush (v := 31) S.1 S.2.1 dL_law_36 (by decide) ?_
    refine lv_iand S.1 S.2.1 dL_law_38 ?_
    have kd : ∀ (Fp9 : xF) (Gp9 : xG) (Fo9 : xF) (Go9 : xG) (Fz9 : xF) (Gz9 : xG) (Fq9 : xF) (Gq9 : xG) (f9 : Nat → Int64) (F9 : xF) (G9 : xG), LR Fp9 Gp9 Fo9 Go9 Fz9 Gz9 Fq9 Gq9 F9 G9 → ∀ (H : Heap) (locs : List Loc) (ls : Array Slot), xI D A s (wL cI cC cZ cL h a b d z q Fp9 Gp9 Fo9 Go9 Fz9 Gz9 Fq9 Gq9 o f9 hm am F9 G9) (xTL cI cC cZ cL) H locs → lv_has ls 7 [(4, .int (nI (5 * k))), (3, .ref o), (2, .ref hm), (1, .ref h), (0, .ref b0)] → W p l e room_1 s m args below meth c H locs (52 + k + 1) (11300 + 6 * k + 6) Q (F0 m 1545 ls []) := by
      intro Fp9 Gp9 Fo9 Go9 Fz9 Gz9 Fq9 Gq9 f9 F9 G9 hLR9 H locs ls I hl
      refine lv_iinc (v := nI (5 * (k + 1))) (lv' := [(4, .int (nI (5 * (k + 1)))), (3, .ref o), (2, .ref hm), (1, .ref h), (0, .ref b0)]) S.1 S.2.1 dL_law_1545 hl (k := 0) rfl (nI_add (5 * k) 5) (by decide) rfl (fun ls hl => ?_)
      refine lv_goto (tgt := 23) S.1 S.2.1 dL_law_1548 (by decide) ?_
      refine W.widen (k := 52 + (k + 1)) (n := 11300 + 6 * (k + 1)) (by omega) (by omega) ?_
      exact ih (k + 1) (by omega) (by omega) Fp9 Gp9 Fo9 Go9 Fz9 Gz9 Fq9 Gq9 f9 F9 G9 hLR9 H locs ls I hl
    refine tLaw_sw S _ (fun c0 => ?_) (fun c1 => ?_) (fun c2 => ?_) (fun c3 => ?_) (fun c4 => ?_) (fun c5 => ?_) (fun c6 => ?_) (fun c7 => ?_) (fun c8 => ?_) (fun c9 => ?_) (fun c10 => ?_) (fun c11 => ?_) (fun c12 => ?_) (fun c13 => ?_) (fun c14 => ?_) (fun c15 => ?_) (fun c16 => ?_) (fun c17 => ?_) (fun c18 => ?_) (fun c19 => ?_) (fun c20 => ?_) (fun c21 => ?_) (fun c22 => ?_) (fun c23 => ?_) (fun c24 => ?_) ?_
    · obtain ⟨k1, r1, x0, x1, x2, x3, r2, y0, y1, hx9, hfx, hfm, ht, hv, hLR2⟩ := o0 Fp Gp Fo Go Fz Gz Fq Gq F G hLR (((xs (nI (5 * k) + 1).toNatClampNeg).toUInt32 % 65536).toInt32)
      exact tLaw_0 l hlf sa D cI cC cZ cL h o hm a b d z q am Fp Gp Fo Go Fz Gz Fq Gq f F G S Z hX hbl hbA I hl hcs hi1 hx9 hfx hfm ht hv (fun H1 locs1 ls1 f1 I1 hl1 => kd _ _ _ _ _ _ _ _ f1 _ _ hLR2 H1 locs1 ls1 I1 hl1)
    · obtain ⟨r1, x0, x1, r2, y0, hfx, hfm, hv, hLR2⟩ := o1 Fp Gp Fo Go Fz Gz Fq Gq F G hLR 
      exact tLaw_1 l hlf sa D cI cC cZ cL h o hm a b d z q am Fp Gp Fo Go Fz Gz Fq Gq f F G S Z hX hbl hbA I hl hcs  hfx hfm hv (fun H1 locs1 ls1 f1 I1 hl1 => kd _ _ _ _ _ _ _ _ f1 _ _ hLR2 H1 locs1 ls1 I1 hl1)
    · obtain ⟨r1, r2, y0, y1, hfx, hfm, hv, hLR2⟩ := o2 Fp Gp Fo Go Fz Gz Fq Gq F G hLR 
      exact tLaw_2 l hlf sa D cI cC cZ cL h o hm a b d z q am Fp Gp Fo Go Fz Gz Fq Gq f F G S Z hX hbl hbA I hl hcs  hfx hfm hv (fun H1 locs1 ls1 f1 I1 hl1 => kd _ _ _ _ _ _ _ _ f1 _ _ hLR2 H1 locs1 ls1 I1 hl1)
    · obtain ⟨r1, r2, y0, y1, hfx, hfm, hv, hLR2⟩ := o3 Fp Gp Fo Go Fz Gz Fq Gq F G hLR 
      exact tLaw_3 l hlf sa D cI cC cZ cL h o hm a b d z q am Fp Gp Fo Go Fz Gz Fq Gq f F G S Z hX hbl hbA I hl hcs  hfx hfm hv (fun H1 locs1 ls1 f1 I1 hl1 => kd _ _ _ _ _ _ _ _ f1 _ _ hLR2 H1 locs1 ls1 I1 hl1)
    · obtain ⟨r1, r2, y0, y1, hfx, hfm, hv, hLR2⟩ := o4 Fp Gp Fo Go Fz Gz Fq Gq F G hLR 
      exact tLaw_4 l hlf sa D cI cC cZ cL h o hm a b d z q am Fp Gp Fo Go Fz Gz Fq Gq f F G S Z hX hbl hbA I hl hcs  hfx hfm hv (fun H1 locs1 ls1 f1 I1 hl1 => kd _ _ _ _ _ _ _ _ f1 _ _ hLR2 H1 locs1 ls1 I1 hl1)
    · obtain ⟨r1, r2, y0, y1, hfx, hfm, hv, hLR2⟩ := o5 Fp Gp Fo Go Fz Gz Fq Gq F G hLR 
      exact tLaw_5 l hlf sa D cI cC cZ cL h o hm a b d z q am Fp Gp Fo Go Fz Gz Fq Gq f F G S Z hX hbl hbA I hl hcs  hfx hfm hv (fun H1 locs1 ls1 f1 I1 hl1 => kd _ _ _ _ _ _ _ _ f1 _ _ hLR2 H1 locs1 ls1 I1 hl1)
    · obtain ⟨k1, r1, x0, r2, y0, y1, hx9, hfx, hfm, ht, hv, hLR2⟩ := o6 Fp Gp Fo Go Fz Gz Fq Gq F G hLR (xs (nI (5 * k) + 1).toNatClampNeg) (xs (nI (5 * k) + 2).toNatClampNeg) (xs (nI (5 * k) + 3).toNatClampNeg) (xs (nI (5 * k) + 4).toNatClampNeg)
      exact tLaw_6 l hlf sa D cI cC cZ cL h o hm a b d z q am Fp Gp Fo Go Fz Gz Fq Gq f F G S Z hX hbl hbA I hl hcs hi1 hi2 hi3 hi4 hx9 hfx hfm ht hv (fun H1 locs1 ls1 f1 I1 hl1 => kd _ _ _ _ _ _ _ _ f1 _ _ hLR2 H1 locs1 ls1 I1 hl1)
    · obtain ⟨k1, r1, x0, x1, x2, x3, r2, y0, y1, hx9, hfx, hfm, ht, hv, hLR2⟩ := o7 Fp Gp Fo Go Fz Gz Fq Gq F G hLR 
      exact tLaw_7 l hlf sa D cI cC cZ cL h o hm a b d z q am Fp Gp Fo Go Fz Gz Fq Gq f F G S Z hX hbl hbA I hl hcs  hx9 hfx hfm ht hv (fun H1 locs1 ls1 f1 I1 hl1 => kd _ _ _ _ _ _ _ _ f1 _ _ hLR2 H1 locs1 ls1 I1 hl1)
    · obtain ⟨k1, r1, x0, x1, r2, y0, y1, hx9, hfx, hfm, ht, hv, hLR2⟩ := o8 Fp Gp Fo Go Fz Gz Fq Gq F G hLR (xs (nI (5 * k) + 1).toNatClampNeg) (xs (nI (5 * k) + 2).toNatClampNeg)
      exact tLaw_8 l hlf sa D cI cC cZ cL h o hm a b d z q am Fp Gp Fo Go Fz Gz Fq Gq f F G S Z hX hbl hbA I hl hcs hi1 hi2 hx9 hfx hfm ht hv (fun H1 locs1 ls1 f1 I1 hl1 => kd _ _ _ _ _ _ _ _ f1 _ _ hLR2 H1 locs1 ls1 I1 hl1)
    · obtain ⟨k1, r1, x0, x1, r2, y0, y1, hx9, hfx, hfm, ht, hv, hLR2⟩ := o9 Fp Gp Fo Go Fz Gz Fq Gq F G hLR (xs (nI (5 * k) + 1).toNatClampNeg)
      exact tLaw_9 l hlf sa D cI cC cZ cL h o hm a b d z q am Fp Gp Fo Go Fz Gz Fq Gq f F G S Z hX hbl hbA I hl hcs hi1 hx9 hfx hfm ht hv (fun H1 locs1 ls1 f1 I1 hl1 => kd _ _ _ _ _ _ _ _ f1 _ _ hLR2 H1 locs1 ls1 I1 hl1)
    · obtain ⟨k1, r1, r2, y0, hx9, hfx, hfm, ht, hv, hLR2⟩ := o10 Fp Gp Fo Go Fz Gz Fq Gq F G hLR (xs (nI (5 * k) + 1).toNatClampNeg)
      exact tLaw_10 l hlf sa D cI cC cZ cL h o hm a b d z q am Fp Gp Fo Go Fz Gz Fq Gq f F G S Z hX hbl hbA I hl hcs hi1 hx9 hfx hfm ht hv (fun H1 locs1 ls1 f1 I1 hl1 => kd _ _ _ _ _ _ _ _ f1 _ _ hLR2 H1 locs1 ls1 I1 hl1)
    · obtain ⟨k1, r1, x0, r2, y0, y1, hx9, hfx, hfm, ht, hv, hLR2⟩ := o11 Fp Gp Fo Go Fz Gz Fq Gq F G hLR (xs (nI (5 * k) + 1).toNatClampNeg) (xs (nI (5 * k) + 2).toNatClampNeg) (xs (nI (5 * k) + 3).toNatClampNeg)
      exact tLaw_11 l hlf sa D cI cC cZ cL h o hm a b d z q am Fp Gp Fo Go Fz Gz Fq Gq f F G S Z hX hbl hbA I hl hcs hi1 hi2 hi3 hx9 hfx hfm ht hv (fun H1 locs1 ls1 f1 I1 hl1 => kd _ _ _ _ _ _ _ _ f1 _ _ hLR2 H1 locs1 ls1 I1 hl1)
    · obtain ⟨k1, r1, r2, y0, hx9, hfx, hfm, ht, hv, hLR2⟩ := o12 Fp Gp Fo Go Fz Gz Fq Gq F G hLR (xs (nI (5 * k) + 1).toNatClampNeg) (xs (nI (5 * k) + 2).toNatClampNeg)
      exact tLaw_12 l hlf sa D cI cC cZ cL h o hm a b d z q am Fp Gp Fo Go Fz Gz Fq Gq f F G S Z hX hbl hbA I hl hcs hi1 hi2 hx9 hfx hfm ht hv (fun H1 locs1 ls1 f1 I1 hl1 => kd _ _ _ _ _ _ _ _ f1 _ _ hLR2 H1 locs1 ls1 I1 hl1)
    · obtain ⟨r1, r2, y0, hfx, hfm, hv, hLR2⟩ := o13 Fp Gp Fo Go Fz Gz Fq Gq F G hLR 
      exact tLaw_13 l hlf sa D cI cC cZ cL h o hm a b d z q am Fp Gp Fo Go Fz Gz Fq Gq f F G S Z hX hbl hbA I hl hcs  hfx hfm hv (fun H1 locs1 ls1 f1 I1 hl1 => kd _ _ _ _ _ _ _ _ f1 _ _ hLR2 H1 locs1 ls1 I1 hl1)
    · obtain ⟨k1, r1, r2, y0, hx9, hfx, hfm, ht, hv, hLR2⟩ := o14 Fp Gp Fo Go Fz Gz Fq Gq F G hLR (xs (nI (5 * k) + 1).toNatClampNeg) (xs (nI (5 * k) + 2).toNatClampNeg)
      exact tLaw_14 l hlf sa D cI cC cZ cL h o hm a b d z q am Fp Gp Fo Go Fz Gz Fq Gq f F G S Z hX hbl hbA I hl hcs hi1 hi2 hx9 hfx hfm ht hv (fun H1 locs1 ls1 f1 I1 hl1 => kd _ _ _ _ _ _ _ _ f1 _ _ hLR2 H1 locs1 ls1 I1 hl1)
    · obtain ⟨k1, r1, r2, y0, hx9, hfx, hfm, ht, hv, hLR2⟩ := o15 Fp Gp Fo Go Fz Gz Fq Gq F G hLR (xs (nI (5 * k) + 1).toNatClampNeg) (xs (nI (5 * k) + 2).toNatClampNeg)
      exact tLaw_15 l hlf sa D cI cC cZ cL h o hm a b d z q am Fp Gp Fo Go Fz Gz Fq Gq f F G S Z hX hbl hbA I hl hcs hi1 hi2 hx9 hfx hfm ht hv (fun H1 locs1 ls1 f1 I1 hl1 => kd _ _ _ _ _ _ _ _ f1 _ _ hLR2 H1 locs1 ls1 I1 hl1)
    · obtain ⟨k1, r1, r2, y0, hx9, hfx, hfm, ht, hv, hLR2⟩ := o16 Fp Gp Fo Go Fz Gz Fq Gq F G hLR (xs (nI (5 * k) + 1).toNatClampNeg) (xs (nI (5 * k) + 2).toNatClampNeg)
      exact tLaw_16 l hlf sa D cI cC cZ cL h o hm a b d z q am Fp Gp Fo Go Fz Gz Fq Gq f F G S Z hX hbl hbA I hl hcs hi1 hi2 hx9 hfx hfm ht hv (fun H1 locs1 ls1 f1 I1 hl1 => kd _ _ _ _ _ _ _ _ f1 _ _ hLR2 H1 locs1 ls1 I1 hl1)
    · obtain ⟨k1, r1, x0, x1, r2, y0, y1, hx9, hfx, hfm, ht, hv, hLR2⟩ := o17 Fp Gp Fo Go Fz Gz Fq Gq F G hLR (xs (nI (5 * k) + 1).toNatClampNeg) (xs (nI (5 * k) + 2).toNatClampNeg) (xs (nI (5 * k) + 3).toNatClampNeg)
      exact tLaw_17 l hlf sa D cI cC cZ cL h o hm a b d z q am Fp Gp Fo Go Fz Gz Fq Gq f F G S Z hX hbl hbA I hl hcs hi1 hi2 hi3 hx9 hfx hfm ht hv (fun H1 locs1 ls1 f1 I1 hl1 => kd _ _ _ _ _ _ _ _ f1 _ _ hLR2 H1 locs1 ls1 I1 hl1)
    · obtain ⟨k1, r1, x0, x1, r2, y0, y1, hx9, hfx, hfm, ht, hv, hLR2⟩ := o18 Fp Gp Fo Go Fz Gz Fq Gq F G hLR (xs (nI (5 * k) + 1).toNatClampNeg) (xs (nI (5 * k) + 2).toNatClampNeg)
      exact tLaw_18 l hlf sa D cI cC cZ cL h o hm a b d z q am Fp Gp Fo Go Fz Gz Fq Gq f F G S Z hX hbl hbA I hl hcs hi1 hi2 hx9 hfx hfm ht hv (fun H1 locs1 ls1 f1 I1 hl1 => kd _ _ _ _ _ _ _ _ f1 _ _ hLR2 H1 locs1 ls1 I1 hl1)
    · obtain ⟨k1, r1, x0, r2, y0, hx9, hfx, hfm, ht, hv, hLR2⟩ := o19 Fp Gp Fo Go Fz Gz Fq Gq F G hLR (xs (nI (5 * k) + 1).toNatClampNeg) (xs (nI (5 * k) + 2).toNatClampNeg)
      exact tLaw_19 l hlf sa D cI cC cZ cL h o hm a b d z q am Fp Gp Fo Go Fz Gz Fq Gq f F G S Z hX hbl hbA I hl hcs hi1 hi2 hx9 hfx hfm ht hv (fun H1 locs1 ls1 f1 I1 hl1 => kd _ _ _ _ _ _ _ _ f1 _ _ hLR2 H1 locs1 ls1 I1 hl1)
    · obtain ⟨k1, r1, x0, r2, y0, hx9, hfx, hfm, ht, hv, hLR2⟩ := o20 Fp Gp Fo Go Fz Gz Fq Gq F G hLR (xs (nI (5 * k) + 1).toNatClampNeg) (xs (nI (5 * k) + 2).toNatClampNeg)
      exact tLaw_20 l hlf sa D cI cC cZ cL h o hm a b d z q am Fp Gp Fo Go Fz Gz Fq Gq f F G S Z hX hbl hbA I hl hcs hi1 hi2 hx9 hfx hfm ht hv (fun H1 locs1 ls1 f1 I1 hl1 => kd _ _ _ _ _ _ _ _ f1 _ _ hLR2 H1 locs1 ls1 I1 hl1)
    · obtain ⟨k1, r1, x0, r2, y0, hx9, hfx, hfm, ht, hv, hLR2⟩ := o21 Fp Gp Fo Go Fz Gz Fq Gq F G hLR (xs (nI (5 * k) + 1).toNatClampNeg) (xs (nI (5 * k) + 2).toNatClampNeg) (xs (nI (5 * k) + 3).toNatClampNeg)
      exact tLaw_21 l hlf sa D cI cC cZ cL h o hm a b d z q am Fp Gp Fo Go Fz Gz Fq Gq f F G S Z hX hbl hbA I hl hcs hi1 hi2 hi3 hx9 hfx hfm ht hv (fun H1 locs1 ls1 f1 I1 hl1 => kd _ _ _ _ _ _ _ _ f1 _ _ hLR2 H1 locs1 ls1 I1 hl1)
    · obtain ⟨k1, r1, r2, y0, hx9, hfx, hfm, ht, hv, hLR2⟩ := o22 Fp Gp Fo Go Fz Gz Fq Gq F G hLR (xs (nI (5 * k) + 1).toNatClampNeg) (xs (nI (5 * k) + 2).toNatClampNeg)
      exact tLaw_22 l hlf sa D cI cC cZ cL h o hm a b d z q am Fp Gp Fo Go Fz Gz Fq Gq f F G S Z hX hbl hbA I hl hcs hi1 hi2 hx9 hfx hfm ht hv (fun H1 locs1 ls1 f1 I1 hl1 => kd _ _ _ _ _ _ _ _ f1 _ _ hLR2 H1 locs1 ls1 I1 hl1)
    · obtain ⟨k1, r1, r2, y0, y1, hx9, hfx, hfm, ht, hv, hLR2⟩ := o23 Fp Gp Fo Go Fz Gz Fq Gq F G hLR (xs (nI (5 * k) + 1).toNatClampNeg) (xs (nI (5 * k) + 2).toNatClampNeg)
      exact tLaw_23 l hlf sa D cI cC cZ cL h o hm a b d z q am Fp Gp Fo Go Fz Gz Fq Gq f F G S Z hX hbl hbA I hl hcs hi1 hi2 hx9 hfx hfm ht hv (fun H1 locs1 ls1 f1 I1 hl1 => kd _ _ _ _ _ _ _ _ f1 _ _ hLR2 H1 locs1 ls1 I1 hl1)
    · obtain ⟨k1, r1, r2, y0, y1, hx9, hfx, hfm, ht, hv, hLR2⟩ := o24 Fp Gp Fo Go Fz Gz Fq Gq F G hLR (xs (nI (5 * k) + 1).toNatClampNeg) (xs (nI (5 * k) + 2).toNatClampNeg)
      exact tLaw_24 l hlf sa D cI cC cZ cL h o hm a b d z q am Fp Gp Fo Go Fz Gz Fq Gq f F G S Z hX hbl hbA I hl hcs hi1 hi2 hx9 hfx hfm ht hv (fun H1 locs1 ls1 f1 I1 hl1 => kd _ _ _ _ _ _ _ _ f1 _ _ hLR2 H1 locs1 ls1 I1 hl1)
    · refine W.widen (k := 52 + k + 1) (n := 11300 + 6 * k + 6) (Nat.le_add_right _ _) (Nat.le_add_right _ _) ?_
      exact kd Fp Gp Fo Go Fz Gz Fq Gq f F G hLR H locs ls I hl
end LOOP
