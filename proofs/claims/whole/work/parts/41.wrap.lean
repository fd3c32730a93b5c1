theorem w_in01 : vp_in 0 1 := (by decide : ¬ ((0 : Int32) < 0 ∨ 1 ≤ (0 : Int32).toNatClampNeg))
def rmL_letter : Room := { frames := 8, cells := 1, slots := 6, locals := 191 }
set_option maxHeartbeats 4000000 in
set_option maxRecDepth 100000 in
theorem tL_letter (l : Launch) (hlf : l.stackTraces = false) (sa : Nat → Nat) (D : va_G) (cI cC cZ cL : ClassId) (h o : Nat) (a b d z q : Nat → Nat) (Fp : xF) (Gp : xG) (Fo : xF) (Go : xG) (Fz : xF) (Gz : xG) (Fq : xF) (Gq : xG) (f : Nat → Int64) (p1 : Int32) (res : Int32 × Int32 × xF × xG × xF × xG) (hx9 : ¬ res.1 = 0 → ¬ res.1 = 1 → res.1 = 2) (hf : fX5_letter Fp Gp Fo Go p1 = some res) : wC l yL_letter wsL_letter rmL_letter D sa [.ref h, .int p1, .ref o] ((wX5 cI cC cZ h a b d z q Fp Gp Fo Go Fz Gz Fq Gq) ++ [(o, .inl (cL, 1, .inr (.inl f)))]) (fun t => ((wX5 cI cC cZ h a b d z q t.2.2.1 t.2.2.2.1 t.2.2.2.2.1 t.2.2.2.2.2 Fz Gz Fq Gq) ++ [(o, .inl (cL, 1, .inr (.inl (if t.1 = 0 then vp_updL f 0 t.2.1.toInt64 else f))))])) (xTL cI cC cZ cL) res := by
  obtain ⟨r1, r2, r3, r4, r5, r6⟩ := res
  refine w_of (cc := cL_letter) (maxL := 4) (hh := [(0, 9, 12, 13), (0, 9, 15, 15)]) (by decide) rfl (Nat.le_of_ble_eq_true rfl) ?_
  intro p e s m args below meth c A Q ls S I Z E hl
  replace hl : lv_has ls 4 [(0, .ref h), (1, .int p1), (2, .ref o)] := hl
  have htab := E.2.2.2.2
  refine lv_aload_n S.1 S.2.1 dL_letter_0 rfl (lv_at hl 2 rfl) ?_
  refine lv_iconst (v := 0) S.1 S.2.1 dL_letter_1 (by decide) ?_
  refine lv_aload_n S.1 S.2.1 dL_letter_2 rfl (lv_at hl 0 rfl) ?_
  refine lv_iload_n S.1 S.2.1 dL_letter_3 rfl (lv_at hl 1 rfl) ?_
  refine w_cV (As := [.int p1]) (rest := [.int 0, .ref o]) (ws' := ((wX5 cI cC cZ h a b d z q r3 r4 r5 r6 Fz Gz Fq Gq) ++ [(o, .inl (cL, 1, .inr (.inl f)))])) S I Z [0, 1, 2] rfl (tX5_letter l hlf sa D cI cC cZ h a b d z q Fp Gp Fo Go Fz Gz Fq Gq p1 (r1, r2, r3, r4, r5, r6) hf) (cwV 1 S.2.2.2.2 gL_letter_X5_letter rfl rfl rfl (by decide +kernel) ⟨Nat.le_of_ble_eq_true rfl, Nat.le_of_ble_eq_true rfl⟩) 0 4 rfl rfl rfl [0, 1, 2, 3, 4, 5, 6, 7, 8, 9, 10, 11, 12, 13, 14, 15, 16, 17, 18, 19, 20, 21, 22, 23, 24, 25, 26] [27] [1, 2, 3, 4, 5, 6, 7, 8, 9, 10, 11, 12, 13, 14, 15, 16, 17, 18, 19, 20, 21, 22, 23, 24, 25, 26, 27, 0] rfl rfl rfl rfl (by decide) rfl rfl rfl hl rfl (Nat.le_of_ble_eq_true rfl) ⟨Nat.le_refl _, Nat.le_refl _⟩ dL_letter_4 (fun h0 H locs I => ?_) (fun h0 H locs q9 ce I hce hcv hcl => ?_)
  · replace h0 : r1 = 0 := h0
    refine W.eq (g2 := F0 m 7 ls [.int r2, .int 0, .ref o]) rfl ?_
    refine lv_i2l (v := r2.toInt64) S.1 S.2.1 dL_letter_7 rfl ?_
    refine x_last (f := f) (ws' := ((wX5 cI cC cZ h a b d z q r3 r4 r5 r6 Fz Gz Fq Gq) ++ [(o, .inl (cL, 1, .inr (.inl (vp_updL f 0 r2.toInt64))))])) S I 27 3 rfl rfl w_in01 rfl dL_letter_8 (fun H locs I => ?_)
    refine lv_goto (tgt := 18) S.1 S.2.1 dL_letter_9 (by decide) ?_
    refine lv_iconst (v := 0) S.1 S.2.1 dL_letter_18 (by decide) ?_
    exact w_ri S E h0 I (by subst h0; rfl) dL_letter_19
  · replace h0 : ¬ r1 = 0 := h0
    replace hcl : s.vm.findClass (exX5_letter r1) = some ce.cls := hcl
    by_cases e1 : r1 = 1
    · refine w_catch (nm := yIAE) S Z htab [] ⟨0, 9, 12, 13⟩ [⟨0, 9, 15, 15⟩] rfl (fun _ h => nomatch h) rfl (by decide) (by decide +kernel) (by rw [e1]; rfl) (by decide) hce hcv hcl ?_
      refine lv_astore_n (lv' := [(3, .ref q9), (0, .ref h), (1, .int p1), (2, .ref o)]) S.1 S.2.1 dL_letter_12 rfl hl (by decide) rfl (fun ls hl => ?_)
      refine lv_iconst (v := 1) S.1 S.2.1 dL_letter_13 (by decide) ?_
      exact w_ri S E e1 I (by subst e1; rfl) dL_letter_14
    refine w_catch (nm := yISE) S Z htab [⟨0, 9, 12, 13⟩] ⟨0, 9, 15, 15⟩ [] rfl (by rw [show exX5_letter r1 = yISE from by unfold exX5_letter; rw [if_neg e1]]; intro z hz; simp only [List.mem_cons, List.not_mem_nil, or_false] at hz; rcases hz with rfl <;> first | exact ⟨by decide, yIAE, by decide +kernel, Z.2.1.2.2.1⟩) rfl (by decide) (by decide +kernel) ((by unfold exX5_letter; rw [if_neg e1] : exX5_letter r1 = yISE)) (by decide) hce hcv hcl ?_
    refine lv_astore_n (lv' := [(3, .ref q9), (0, .ref h), (1, .int p1), (2, .ref o)]) S.1 S.2.1 dL_letter_15 rfl hl (by decide) rfl (fun ls hl => ?_)
    refine lv_iconst (v := 2) S.1 S.2.1 dL_letter_16 (by decide) ?_
    have e9 : r1 = 2 := hx9 h0 e1
    exact w_ri S E e9 I (by subst e9; rfl) dL_letter_17
def rmL_isSo : Room := { frames := 7, cells := 1, slots := 6, locals := 124 }
set_option maxHeartbeats 4000000 in
set_option maxRecDepth 100000 in
theorem tL_isSo (l : Launch) (hlf : l.stackTraces = false) (sa : Nat → Nat) (D : va_G) (cI cC cZ cL : ClassId) (h o : Nat) (a b d z q : Nat → Nat) (Fp : xF) (Gp : xG) (Fo : xF) (Go : xG) (Fz : xF) (Gz : xG) (Fq : xF) (Gq : xG) (f : Nat → Int64) (p1 p2 p3 p4 : Int32) (res : Int32 × Int32 × xG) (hx9 : ¬ res.1 = 0 → ¬ res.1 = 1 → res.1 = 2) (hf : fX5_isSo Fp Fo Go p1 p2 p3 p4 = some res) : wC l yL_isSo wsL_isSo rmL_isSo D sa [.ref h, .int p1, .int p2, .int p3, .int p4, .ref o] ((wX5 cI cC cZ h a b d z q Fp Gp Fo Go Fz Gz Fq Gq) ++ [(o, .inl (cL, 1, .inr (.inl f)))]) (fun t => ((wX5 cI cC cZ h a b d z q Fp Gp Fo t.2.2 Fz Gz Fq Gq) ++ [(o, .inl (cL, 1, .inr (.inl (if t.1 = 0 then vp_updL f 0 (if t.2.1 = 0 then 0 else 1) else f))))])) (xTL cI cC cZ cL) res := by
  obtain ⟨r1, r2, r3⟩ := res
  refine w_of (cc := cL_isSo) (maxL := 7) (hh := [(0, 21, 24, 13), (0, 21, 28, 15)]) (by decide) rfl (Nat.le_of_ble_eq_true rfl) ?_
  intro p e s m args below meth c A Q ls S I Z E hl
  replace hl : lv_has ls 7 [(0, .ref h), (1, .int p1), (2, .int p2), (3, .int p3), (4, .int p4), (5, .ref o)] := hl
  have htab := E.2.2.2.2
  refine lv_aload S.1 S.2.1 dL_isSo_0 (lv_at hl 5 rfl) ?_
  refine lv_iconst (v := 0) S.1 S.2.1 dL_isSo_2 (by decide) ?_
  refine lv_aload_n S.1 S.2.1 dL_isSo_3 rfl (lv_at hl 0 rfl) ?_
  refine lv_iload_n S.1 S.2.1 dL_isSo_4 rfl (lv_at hl 1 rfl) ?_
  refine lv_iload_n S.1 S.2.1 dL_isSo_5 rfl (lv_at hl 2 rfl) ?_
  refine lv_iload_n S.1 S.2.1 dL_isSo_6 rfl (lv_at hl 3 rfl) ?_
  refine lv_iload S.1 S.2.1 dL_isSo_7 (lv_at hl 4 rfl) ?_
  refine w_cV (As := [.int p1, .int p2, .int p3, .int p4]) (rest := [.int 0, .ref o]) (ws' := ((wX5 cI cC cZ h a b d z q Fp Gp Fo r3 Fz Gz Fq Gq) ++ [(o, .inl (cL, 1, .inr (.inl f)))])) S I Z [0, 1, 2] rfl (tX5_isSo l hlf sa D cI cC cZ h a b d z q Fp Gp Fo Go Fz Gz Fq Gq p1 p2 p3 p4 (r1, r2, r3) hf) (cwV 4 S.2.2.2.2 gL_isSo_X5_isSo rfl rfl rfl (by decide +kernel) ⟨Nat.le_of_ble_eq_true rfl, Nat.le_of_ble_eq_true rfl⟩) 0 4 rfl rfl rfl [0, 1, 2, 3, 4, 5, 6, 7, 8, 9, 10, 11, 12, 13, 14, 15, 16, 17, 18, 19, 20, 21, 22, 23, 24, 25, 26] [27] [1, 2, 3, 4, 5, 6, 7, 8, 9, 10, 11, 12, 13, 14, 15, 16, 17, 18, 19, 20, 21, 22, 23, 24, 25, 26, 27, 0] rfl rfl rfl rfl (by decide) rfl rfl rfl hl rfl (Nat.le_of_ble_eq_true rfl) ⟨Nat.le_refl _, Nat.le_refl _⟩ dL_isSo_9 (fun h0 H locs I => ?_) (fun h0 H locs q9 ce I hce hcv hcl => ?_)
  · replace h0 : r1 = 0 := h0
    refine W.eq (g2 := F0 m 12 ls [.int r2, .int 0, .ref o]) rfl ?_
    refine lv_if_eq (tgt := 19) S.1 S.2.1 dL_isSo_12 (by decide) (fun c1 => ?_) (fun c1 => ?_)
    · refine lv_lconst (v := 0) S.1 S.2.1 dL_isSo_19 rfl ?_
      refine x_last (f := f) (ws' := ((wX5 cI cC cZ h a b d z q Fp Gp Fo r3 Fz Gz Fq Gq) ++ [(o, .inl (cL, 1, .inr (.inl (vp_updL f 0 0))))])) S I 27 3 rfl rfl w_in01 rfl dL_isSo_20 (fun H locs I => ?_)
      refine lv_goto (tgt := 32) S.1 S.2.1 dL_isSo_21 (by decide) ?_
      refine lv_iconst (v := 0) S.1 S.2.1 dL_isSo_32 (by decide) ?_
      exact w_ri S E h0 I (by subst h0; subst c1; rfl) dL_isSo_33
    · refine lv_lconst (v := 1) S.1 S.2.1 dL_isSo_15 rfl ?_
      refine lv_goto (tgt := 20) S.1 S.2.1 dL_isSo_16 (by decide) ?_
      refine x_last (f := f) (ws' := ((wX5 cI cC cZ h a b d z q Fp Gp Fo r3 Fz Gz Fq Gq) ++ [(o, .inl (cL, 1, .inr (.inl (vp_updL f 0 1))))])) S I 27 3 rfl rfl w_in01 rfl dL_isSo_20 (fun H locs I => ?_)
      refine lv_goto (tgt := 32) S.1 S.2.1 dL_isSo_21 (by decide) ?_
      refine lv_iconst (v := 0) S.1 S.2.1 dL_isSo_32 (by decide) ?_
      exact w_ri S E h0 I (by subst h0; exact (congrArg (fun w => ((wX5 cI cC cZ h a b d z q Fp Gp Fo r3 Fz Gz Fq Gq) ++ [(o, .inl (cL, 1, .inr (.inl (vp_updL f 0 w))))])) (show (1 : Int64) = (if r2 = 0 then 0 else 1) from (if_neg c1).symm))) dL_isSo_33
  · replace h0 : ¬ r1 = 0 := h0
    replace hcl : s.vm.findClass (exX5_isSo r1) = some ce.cls := hcl
    by_cases e1 : r1 = 1
    · refine w_catch (nm := yIAE) S Z htab [] ⟨0, 21, 24, 13⟩ [⟨0, 21, 28, 15⟩] rfl (fun _ h => nomatch h) rfl (by decide) (by decide +kernel) (by rw [e1]; rfl) (by decide) hce hcv hcl ?_
      refine lv_astore (lv' := [(6, .ref q9), (0, .ref h), (1, .int p1), (2, .int p2), (3, .int p3), (4, .int p4), (5, .ref o)]) S.1 S.2.1 dL_isSo_24 hl (by decide) rfl (fun ls hl => ?_)
      refine lv_iconst (v := 1) S.1 S.2.1 dL_isSo_26 (by decide) ?_
      exact w_ri S E e1 I (by subst e1; rfl) dL_isSo_27
    refine w_catch (nm := yISE) S Z htab [⟨0, 21, 24, 13⟩] ⟨0, 21, 28, 15⟩ [] rfl (by rw [show exX5_isSo r1 = yISE from by unfold exX5_isSo; rw [if_neg e1]]; intro z hz; simp only [List.mem_cons, List.not_mem_nil, or_false] at hz; rcases hz with rfl <;> first | exact ⟨by decide, yIAE, by decide +kernel, Z.2.1.2.2.1⟩) rfl (by decide) (by decide +kernel) ((by unfold exX5_isSo; rw [if_neg e1] : exX5_isSo r1 = yISE)) (by decide) hce hcv hcl ?_
    refine lv_astore (lv' := [(6, .ref q9), (0, .ref h), (1, .int p1), (2, .int p2), (3, .int p3), (4, .int p4), (5, .ref o)]) S.1 S.2.1 dL_isSo_28 hl (by decide) rfl (fun ls hl => ?_)
    refine lv_iconst (v := 2) S.1 S.2.1 dL_isSo_30 (by decide) ?_
    have e9 : r1 = 2 := hx9 h0 e1
    exact w_ri S E e9 I (by subst e9; rfl) dL_isSo_31
def rmL_principle : Room := { frames := 7, cells := 1, slots := 6, locals := 103 }
set_option maxHeartbeats 4000000 in
set_option maxRecDepth 100000 in
theorem tL_principle (l : Launch) (hlf : l.stackTraces = false) (sa : Nat → Nat) (D : va_G) (cI cC cZ cL : ClassId) (h o : Nat) (a b d z q : Nat → Nat) (Fp : xF) (Gp : xG) (Fo : xF) (Go : xG) (Fz : xF) (Gz : xG) (Fq : xF) (Gq : xG) (f : Nat → Int64) (res : Int32 × Int32 × xF × xF × xF × xG) (hx9 : ¬ res.1 = 0 → res.1 = 1) (hf : fX5_principle Fp Fo Go Fz Gz = some res) : wC l yL_principle wsL_principle rmL_principle D sa [.ref h, .ref o] ((wX5 cI cC cZ h a b d z q Fp Gp Fo Go Fz Gz Fq Gq) ++ [(o, .inl (cL, 1, .inr (.inl f)))]) (fun t => ((wX5 cI cC cZ h a b d z q t.2.2.1 Gp t.2.2.2.1 Go t.2.2.2.2.1 t.2.2.2.2.2 Fq Gq) ++ [(o, .inl (cL, 1, .inr (.inl (if t.1 = 0 then vp_updL f 0 t.2.1.toInt64 else f))))])) (xTL cI cC cZ cL) res := by
  obtain ⟨r1, r2, r3, r4, r5, r6⟩ := res
  refine w_of (cc := cL_principle) (maxL := 3) (hh := [(0, 8, 11, 15)]) (by decide) rfl (Nat.le_of_ble_eq_true rfl) ?_
  intro p e s m args below meth c A Q ls S I Z E hl
  replace hl : lv_has ls 3 [(0, .ref h), (1, .ref o)] := hl
  have htab := E.2.2.2.2
  refine lv_aload_n S.1 S.2.1 dL_principle_0 rfl (lv_at hl 1 rfl) ?_
  refine lv_iconst (v := 0) S.1 S.2.1 dL_principle_1 (by decide) ?_
  refine lv_aload_n S.1 S.2.1 dL_principle_2 rfl (lv_at hl 0 rfl) ?_
  refine w_cV (As := []) (rest := [.int 0, .ref o]) (ws' := ((wX5 cI cC cZ h a b d z q r3 Gp r4 Go r5 r6 Fq Gq) ++ [(o, .inl (cL, 1, .inr (.inl f)))])) S I Z [0, 1, 2] rfl (tX5_principle l hlf sa D cI cC cZ h a b d z q Fp Gp Fo Go Fz Gz Fq Gq  (r1, r2, r3, r4, r5, r6) hf) (cwV 0 S.2.2.2.2 gL_principle_X5_principle rfl rfl rfl (by decide +kernel) ⟨Nat.le_of_ble_eq_true rfl, Nat.le_of_ble_eq_true rfl⟩) 0 4 rfl rfl rfl [0, 1, 2, 3, 4, 5, 6, 7, 8, 9, 10, 11, 12, 13, 14, 15, 16, 17, 18, 19, 20, 21, 22, 23, 24, 25, 26] [27] [1, 2, 3, 4, 5, 6, 7, 8, 9, 10, 11, 12, 13, 14, 15, 16, 17, 18, 19, 20, 21, 22, 23, 24, 25, 26, 27, 0] rfl rfl rfl rfl (by decide) rfl rfl rfl hl rfl (Nat.le_of_ble_eq_true rfl) ⟨Nat.le_refl _, Nat.le_refl _⟩ dL_principle_3 (fun h0 H locs I => ?_) (fun h0 H locs q9 ce I hce hcv hcl => ?_)
  · replace h0 : r1 = 0 := h0
    refine W.eq (g2 := F0 m 6 ls [.int r2, .int 0, .ref o]) rfl ?_
    refine lv_i2l (v := r2.toInt64) S.1 S.2.1 dL_principle_6 rfl ?_
    refine x_last (f := f) (ws' := ((wX5 cI cC cZ h a b d z q r3 Gp r4 Go r5 r6 Fq Gq) ++ [(o, .inl (cL, 1, .inr (.inl (vp_updL f 0 r2.toInt64))))])) S I 27 3 rfl rfl w_in01 rfl dL_principle_7 (fun H locs I => ?_)
    refine lv_goto (tgt := 14) S.1 S.2.1 dL_principle_8 (by decide) ?_
    refine lv_iconst (v := 0) S.1 S.2.1 dL_principle_14 (by decide) ?_
    exact w_ri S E h0 I (by subst h0; rfl) dL_principle_15
  · replace h0 : ¬ r1 = 0 := h0
    replace hcl : s.vm.findClass (exX5_principle r1) = some ce.cls := hcl
    refine w_catch (nm := yISE) S Z htab [] ⟨0, 8, 11, 15⟩ [] rfl (fun _ h => nomatch h) rfl (by decide) (by decide +kernel) (rfl) (by decide) hce hcv hcl ?_
    refine lv_astore_n (lv' := [(2, .ref q9), (0, .ref h), (1, .ref o)]) S.1 S.2.1 dL_principle_11 rfl hl (by decide) rfl (fun ls hl => ?_)
    refine lv_iconst (v := 1) S.1 S.2.1 dL_principle_12 (by decide) ?_
    have e9 : r1 = 1 := hx9 h0
    exact w_ri S E e9 I (by subst e9; rfl) dL_principle_13
def rmL_rule : Room := { frames := 7, cells := 1, slots := 6, locals := 104 }
set_option maxHeartbeats 4000000 in
set_option maxRecDepth 100000 in
theorem tL_rule (l : Launch) (hlf : l.stackTraces = false) (sa : Nat → Nat) (D : va_G) (cI cC cZ cL : ClassId) (h o : Nat) (a b d z q : Nat → Nat) (Fp : xF) (Gp : xG) (Fo : xF) (Go : xG) (Fz : xF) (Gz : xG) (Fq : xF) (Gq : xG) (f : Nat → Int64) (p1 p2 : Int32) (res : Int32 × Int32 × xF × xG) (hx9 : ¬ res.1 = 0 → ¬ res.1 = 1 → ¬ res.1 = 2 → res.1 = 3) (hf : fX5_rule Fz Gz p1 p2 = some res) : wC l yL_rule wsL_rule rmL_rule D sa [.ref h, .int p1, .int p2, .ref o] ((wX5 cI cC cZ h a b d z q Fp Gp Fo Go Fz Gz Fq Gq) ++ [(o, .inl (cL, 1, .inr (.inl f)))]) (fun t => ((wX5 cI cC cZ h a b d z q Fp Gp Fo Go t.2.2.1 t.2.2.2 Fq Gq) ++ [(o, .inl (cL, 1, .inr (.inl (if t.1 = 0 then vp_updL f 0 t.2.1.toInt64 else f))))])) (xTL cI cC cZ cL) res := by
  obtain ⟨r1, r2, r3, r4⟩ := res
  refine w_of (cc := cL_rule) (maxL := 5) (hh := [(0, 10, 13, 29), (0, 10, 17, 13), (0, 10, 21, 15)]) (by decide) rfl (Nat.le_of_ble_eq_true rfl) ?_
  intro p e s m args below meth c A Q ls S I Z E hl
  replace hl : lv_has ls 5 [(0, .ref h), (1, .int p1), (2, .int p2), (3, .ref o)] := hl
  have htab := E.2.2.2.2
  refine lv_aload_n S.1 S.2.1 dL_rule_0 rfl (lv_at hl 3 rfl) ?_
  refine lv_iconst (v := 0) S.1 S.2.1 dL_rule_1 (by decide) ?_
  refine lv_aload_n S.1 S.2.1 dL_rule_2 rfl (lv_at hl 0 rfl) ?_
  refine lv_iload_n S.1 S.2.1 dL_rule_3 rfl (lv_at hl 1 rfl) ?_
  refine lv_iload_n S.1 S.2.1 dL_rule_4 rfl (lv_at hl 2 rfl) ?_
  refine w_cV (As := [.int p1, .int p2]) (rest := [.int 0, .ref o]) (ws' := ((wX5 cI cC cZ h a b d z q Fp Gp Fo Go r3 r4 Fq Gq) ++ [(o, .inl (cL, 1, .inr (.inl f)))])) S I Z [0, 1, 2] rfl (tX5_rule l hlf sa D cI cC cZ h a b d z q Fp Gp Fo Go Fz Gz Fq Gq p1 p2 (r1, r2, r3, r4) hf) (cwV 2 S.2.2.2.2 gL_rule_X5_rule rfl rfl rfl (by decide +kernel) ⟨Nat.le_of_ble_eq_true rfl, Nat.le_of_ble_eq_true rfl⟩) 0 4 rfl rfl rfl [0, 1, 2, 3, 4, 5, 6, 7, 8, 9, 10, 11, 12, 13, 14, 15, 16, 17, 18, 19, 20, 21, 22, 23, 24, 25, 26] [27] [1, 2, 3, 4, 5, 6, 7, 8, 9, 10, 11, 12, 13, 14, 15, 16, 17, 18, 19, 20, 21, 22, 23, 24, 25, 26, 27, 0] rfl rfl rfl rfl (by decide) rfl rfl rfl hl rfl (Nat.le_of_ble_eq_true rfl) ⟨Nat.le_refl _, Nat.le_refl _⟩ dL_rule_5 (fun h0 H locs I => ?_) (fun h0 H locs q9 ce I hce hcv hcl => ?_)
  · replace h0 : r1 = 0 := h0
    refine W.eq (g2 := F0 m 8 ls [.int r2, .int 0, .ref o]) rfl ?_
    refine lv_i2l (v := r2.toInt64) S.1 S.2.1 dL_rule_8 rfl ?_
    refine x_last (f := f) (ws' := ((wX5 cI cC cZ h a b d z q Fp Gp Fo Go r3 r4 Fq Gq) ++ [(o, .inl (cL, 1, .inr (.inl (vp_updL f 0 r2.toInt64))))])) S I 27 3 rfl rfl w_in01 rfl dL_rule_9 (fun H locs I => ?_)
    refine lv_goto (tgt := 25) S.1 S.2.1 dL_rule_10 (by decide) ?_
    refine lv_iconst (v := 0) S.1 S.2.1 dL_rule_25 (by decide) ?_
    exact w_ri S E h0 I (by subst h0; rfl) dL_rule_26
  · replace h0 : ¬ r1 = 0 := h0
    replace hcl : s.vm.findClass (exX5_rule r1) = some ce.cls := hcl
    by_cases e1 : r1 = 1
    · refine w_catch (nm := yIOE) S Z htab [] ⟨0, 10, 13, 29⟩ [⟨0, 10, 17, 13⟩, ⟨0, 10, 21, 15⟩] rfl (fun _ h => nomatch h) rfl (by decide) (by decide +kernel) (by rw [e1]; rfl) (by decide) hce hcv hcl ?_
      refine lv_astore (lv' := [(4, .ref q9), (0, .ref h), (1, .int p1), (2, .int p2), (3, .ref o)]) S.1 S.2.1 dL_rule_13 hl (by decide) rfl (fun ls hl => ?_)
      refine lv_iconst (v := 1) S.1 S.2.1 dL_rule_15 (by decide) ?_
      exact w_ri S E e1 I (by subst e1; rfl) dL_rule_16
    by_cases e2 : r1 = 2
    · refine w_catch (nm := yIAE) S Z htab [⟨0, 10, 13, 29⟩] ⟨0, 10, 17, 13⟩ [⟨0, 10, 21, 15⟩] rfl (by rw [show exX5_rule r1 = yIAE from by rw [e2]; rfl]; intro z hz; simp only [List.mem_cons, List.not_mem_nil, or_false] at hz; rcases hz with rfl <;> first | exact ⟨by decide, yIOE, by decide +kernel, Z.2.1.2.1⟩) rfl (by decide) (by decide +kernel) (by rw [e2]; rfl) (by decide) hce hcv hcl ?_
      refine lv_astore (lv' := [(4, .ref q9), (0, .ref h), (1, .int p1), (2, .int p2), (3, .ref o)]) S.1 S.2.1 dL_rule_17 hl (by decide) rfl (fun ls hl => ?_)
      refine lv_iconst (v := 2) S.1 S.2.1 dL_rule_19 (by decide) ?_
      exact w_ri S E e2 I (by subst e2; rfl) dL_rule_20
    refine w_catch (nm := yISE) S Z htab [⟨0, 10, 13, 29⟩, ⟨0, 10, 17, 13⟩] ⟨0, 10, 21, 15⟩ [] rfl (by rw [show exX5_rule r1 = yISE from by unfold exX5_rule; rw [if_neg e1, if_neg e2]]; intro z hz; simp only [List.mem_cons, List.not_mem_nil, or_false] at hz; rcases hz with rfl | rfl <;> first | exact ⟨by decide, yIOE, by decide +kernel, Z.2.1.2.2.2.1⟩ | exact ⟨by decide, yIAE, by decide +kernel, Z.2.1.2.2.1⟩) rfl (by decide) (by decide +kernel) ((by unfold exX5_rule; rw [if_neg e1, if_neg e2] : exX5_rule r1 = yISE)) (by decide) hce hcv hcl ?_
    refine lv_astore (lv' := [(4, .ref q9), (0, .ref h), (1, .int p1), (2, .int p2), (3, .ref o)]) S.1 S.2.1 dL_rule_21 hl (by decide) rfl (fun ls hl => ?_)
    refine lv_iconst (v := 3) S.1 S.2.1 dL_rule_23 (by decide) ?_
    have e9 : r1 = 3 := hx9 h0 e1 e2
    exact w_ri S E e9 I (by subst e9; rfl) dL_rule_24
def rmL_model : Room := { frames := 7, cells := 1, slots := 6, locals := 107 }
set_option maxHeartbeats 4000000 in
set_option maxRecDepth 100000 in
theorem tL_model (l : Launch) (hlf : l.stackTraces = false) (sa : Nat → Nat) (D : va_G) (cI cC cZ cL : ClassId) (h o : Nat) (a b d z q : Nat → Nat) (Fp : xF) (Gp : xG) (Fo : xF) (Go : xG) (Fz : xF) (Gz : xG) (Fq : xF) (Gq : xG) (f : Nat → Int64) (p1 : Int32) (res : Int32 × Int32 × xF × xG) (hx9 : ¬ res.1 = 0 → ¬ res.1 = 1 → res.1 = 2) (hf : fX5_model Fz Gz p1 = some res) : wC l yL_model wsL_model rmL_model D sa [.ref h, .int p1, .ref o] ((wX5 cI cC cZ h a b d z q Fp Gp Fo Go Fz Gz Fq Gq) ++ [(o, .inl (cL, 1, .inr (.inl f)))]) (fun t => ((wX5 cI cC cZ h a b d z q Fp Gp Fo Go t.2.2.1 t.2.2.2 Fq Gq) ++ [(o, .inl (cL, 1, .inr (.inl (if t.1 = 0 then vp_updL f 0 t.2.1.toInt64 else f))))])) (xTL cI cC cZ cL) res := by
  obtain ⟨r1, r2, r3, r4⟩ := res
  refine w_of (cc := cL_model) (maxL := 4) (hh := [(0, 9, 12, 13), (0, 9, 15, 15)]) (by decide) rfl (Nat.le_of_ble_eq_true rfl) ?_
  intro p e s m args below meth c A Q ls S I Z E hl
  replace hl : lv_has ls 4 [(0, .ref h), (1, .int p1), (2, .ref o)] := hl
  have htab := E.2.2.2.2
  refine lv_aload_n S.1 S.2.1 dL_model_0 rfl (lv_at hl 2 rfl) ?_
  refine lv_iconst (v := 0) S.1 S.2.1 dL_model_1 (by decide) ?_
  refine lv_aload_n S.1 S.2.1 dL_model_2 rfl (lv_at hl 0 rfl) ?_
  refine lv_iload_n S.1 S.2.1 dL_model_3 rfl (lv_at hl 1 rfl) ?_
  refine w_cV (As := [.int p1]) (rest := [.int 0, .ref o]) (ws' := ((wX5 cI cC cZ h a b d z q Fp Gp Fo Go r3 r4 Fq Gq) ++ [(o, .inl (cL, 1, .inr (.inl f)))])) S I Z [0, 1, 2] rfl (tX5_model l hlf sa D cI cC cZ h a b d z q Fp Gp Fo Go Fz Gz Fq Gq p1 (r1, r2, r3, r4) hf) (cwV 1 S.2.2.2.2 gL_model_X5_model rfl rfl rfl (by decide +kernel) ⟨Nat.le_of_ble_eq_true rfl, Nat.le_of_ble_eq_true rfl⟩) 0 4 rfl rfl rfl [0, 1, 2, 3, 4, 5, 6, 7, 8, 9, 10, 11, 12, 13, 14, 15, 16, 17, 18, 19, 20, 21, 22, 23, 24, 25, 26] [27] [1, 2, 3, 4, 5, 6, 7, 8, 9, 10, 11, 12, 13, 14, 15, 16, 17, 18, 19, 20, 21, 22, 23, 24, 25, 26, 27, 0] rfl rfl rfl rfl (by decide) rfl rfl rfl hl rfl (Nat.le_of_ble_eq_true rfl) ⟨Nat.le_refl _, Nat.le_refl _⟩ dL_model_4 (fun h0 H locs I => ?_) (fun h0 H locs q9 ce I hce hcv hcl => ?_)
  · replace h0 : r1 = 0 := h0
    refine W.eq (g2 := F0 m 7 ls [.int r2, .int 0, .ref o]) rfl ?_
    refine lv_i2l (v := r2.toInt64) S.1 S.2.1 dL_model_7 rfl ?_
    refine x_last (f := f) (ws' := ((wX5 cI cC cZ h a b d z q Fp Gp Fo Go r3 r4 Fq Gq) ++ [(o, .inl (cL, 1, .inr (.inl (vp_updL f 0 r2.toInt64))))])) S I 27 3 rfl rfl w_in01 rfl dL_model_8 (fun H locs I => ?_)
    refine lv_goto (tgt := 18) S.1 S.2.1 dL_model_9 (by decide) ?_
    refine lv_iconst (v := 0) S.1 S.2.1 dL_model_18 (by decide) ?_
    exact w_ri S E h0 I (by subst h0; rfl) dL_model_19
  · replace h0 : ¬ r1 = 0 := h0
    replace hcl : s.vm.findClass (exX5_model r1) = some ce.cls := hcl
    by_cases e1 : r1 = 1
    · refine w_catch (nm := yIAE) S Z htab [] ⟨0, 9, 12, 13⟩ [⟨0, 9, 15, 15⟩] rfl (fun _ h => nomatch h) rfl (by decide) (by decide +kernel) (by rw [e1]; rfl) (by decide) hce hcv hcl ?_
      refine lv_astore_n (lv' := [(3, .ref q9), (0, .ref h), (1, .int p1), (2, .ref o)]) S.1 S.2.1 dL_model_12 rfl hl (by decide) rfl (fun ls hl => ?_)
      refine lv_iconst (v := 1) S.1 S.2.1 dL_model_13 (by decide) ?_
      exact w_ri S E e1 I (by subst e1; rfl) dL_model_14
    refine w_catch (nm := yISE) S Z htab [⟨0, 9, 12, 13⟩] ⟨0, 9, 15, 15⟩ [] rfl (by rw [show exX5_model r1 = yISE from by unfold exX5_model; rw [if_neg e1]]; intro z hz; simp only [List.mem_cons, List.not_mem_nil, or_false] at hz; rcases hz with rfl <;> first | exact ⟨by decide, yIAE, by decide +kernel, Z.2.1.2.2.1⟩) rfl (by decide) (by decide +kernel) ((by unfold exX5_model; rw [if_neg e1] : exX5_model r1 = yISE)) (by decide) hce hcv hcl ?_
    refine lv_astore_n (lv' := [(3, .ref q9), (0, .ref h), (1, .int p1), (2, .ref o)]) S.1 S.2.1 dL_model_15 rfl hl (by decide) rfl (fun ls hl => ?_)
    refine lv_iconst (v := 2) S.1 S.2.1 dL_model_16 (by decide) ?_
    have e9 : r1 = 2 := hx9 h0 e1
    exact w_ri S E e9 I (by subst e9; rfl) dL_model_17
def rmL_proves : Room := { frames := 7, cells := 1, slots := 6, locals := 110 }
set_option maxHeartbeats 4000000 in
set_option maxRecDepth 100000 in
theorem tL_proves (l : Launch) (hlf : l.stackTraces = false) (sa : Nat → Nat) (D : va_G) (cI cC cZ cL : ClassId) (h o : Nat) (a b d z q : Nat → Nat) (Fp : xF) (Gp : xG) (Fo : xF) (Go : xG) (Fz : xF) (Gz : xG) (Fq : xF) (Gq : xG) (f : Nat → Int64) (p1 : Int32) (res : Int32 × Int32) (hx9 : ¬ res.1 = 0 → res.1 = 1) (hf : fX5_proves Fz Gz p1 = some res) : wC l yL_proves wsL_proves rmL_proves D sa [.ref h, .int p1, .ref o] ((wX5 cI cC cZ h a b d z q Fp Gp Fo Go Fz Gz Fq Gq) ++ [(o, .inl (cL, 1, .inr (.inl f)))]) (fun t => ((wX5 cI cC cZ h a b d z q Fp Gp Fo Go Fz Gz Fq Gq) ++ [(o, .inl (cL, 1, .inr (.inl (if t.1 = 0 then vp_updL f 0 t.2.toInt64 else f))))])) (xTL cI cC cZ cL) res := by
  obtain ⟨r1, r2⟩ := res
  refine w_of (cc := cL_proves) (maxL := 4) (hh := [(0, 9, 12, 13)]) (by decide) rfl (Nat.le_of_ble_eq_true rfl) ?_
  intro p e s m args below meth c A Q ls S I Z E hl
  replace hl : lv_has ls 4 [(0, .ref h), (1, .int p1), (2, .ref o)] := hl
  have htab := E.2.2.2.2
  refine lv_aload_n S.1 S.2.1 dL_proves_0 rfl (lv_at hl 2 rfl) ?_
  refine lv_iconst (v := 0) S.1 S.2.1 dL_proves_1 (by decide) ?_
  refine lv_aload_n S.1 S.2.1 dL_proves_2 rfl (lv_at hl 0 rfl) ?_
  refine lv_iload_n S.1 S.2.1 dL_proves_3 rfl (lv_at hl 1 rfl) ?_
  refine w_cV (As := [.int p1]) (rest := [.int 0, .ref o]) (ws' := ((wX5 cI cC cZ h a b d z q Fp Gp Fo Go Fz Gz Fq Gq) ++ [(o, .inl (cL, 1, .inr (.inl f)))])) S I Z [0, 1, 2] rfl (tX5_proves l hlf sa D cI cC cZ h a b d z q Fp Gp Fo Go Fz Gz Fq Gq p1 (r1, r2) hf) (cwV 1 S.2.2.2.2 gL_proves_X5_proves rfl rfl rfl (by decide +kernel) ⟨Nat.le_of_ble_eq_true rfl, Nat.le_of_ble_eq_true rfl⟩) 0 4 rfl rfl rfl [0, 1, 2, 3, 4, 5, 6, 7, 8, 9, 10, 11, 12, 13, 14, 15, 16, 17, 18, 19, 20, 21, 22, 23, 24, 25, 26] [27] [1, 2, 3, 4, 5, 6, 7, 8, 9, 10, 11, 12, 13, 14, 15, 16, 17, 18, 19, 20, 21, 22, 23, 24, 25, 26, 27, 0] rfl rfl rfl rfl (by decide) rfl rfl rfl hl rfl (Nat.le_of_ble_eq_true rfl) ⟨Nat.le_refl _, Nat.le_refl _⟩ dL_proves_4 (fun h0 H locs I => ?_) (fun h0 H locs q9 ce I hce hcv hcl => ?_)
  · replace h0 : r1 = 0 := h0
    refine W.eq (g2 := F0 m 7 ls [.int r2, .int 0, .ref o]) rfl ?_
    refine lv_i2l (v := r2.toInt64) S.1 S.2.1 dL_proves_7 rfl ?_
    refine x_last (f := f) (ws' := ((wX5 cI cC cZ h a b d z q Fp Gp Fo Go Fz Gz Fq Gq) ++ [(o, .inl (cL, 1, .inr (.inl (vp_updL f 0 r2.toInt64))))])) S I 27 3 rfl rfl w_in01 rfl dL_proves_8 (fun H locs I => ?_)
    refine lv_goto (tgt := 15) S.1 S.2.1 dL_proves_9 (by decide) ?_
    refine lv_iconst (v := 0) S.1 S.2.1 dL_proves_15 (by decide) ?_
    exact w_ri S E h0 I (by subst h0; rfl) dL_proves_16
  · replace h0 : ¬ r1 = 0 := h0
    replace hcl : s.vm.findClass (exX5_proves r1) = some ce.cls := hcl
    refine w_catch (nm := yIAE) S Z htab [] ⟨0, 9, 12, 13⟩ [] rfl (fun _ h => nomatch h) rfl (by decide) (by decide +kernel) (rfl) (by decide) hce hcv hcl ?_
    refine lv_astore_n (lv' := [(3, .ref q9), (0, .ref h), (1, .int p1), (2, .ref o)]) S.1 S.2.1 dL_proves_12 rfl hl (by decide) rfl (fun ls hl => ?_)
    refine lv_iconst (v := 1) S.1 S.2.1 dL_proves_13 (by decide) ?_
    have e9 : r1 = 1 := hx9 h0
    exact w_ri S E e9 I (by subst e9; rfl) dL_proves_14
def rmL_proof : Room := { frames := 7, cells := 1, slots := 6, locals := 137 }
set_option maxHeartbeats 4000000 in
set_option maxRecDepth 100000 in
theorem tL_proof (l : Launch) (hlf : l.stackTraces = false) (sa : Nat → Nat) (D : va_G) (cI cC cZ cL : ClassId) (h o : Nat) (a b d z q : Nat → Nat) (Fp : xF) (Gp : xG) (Fo : xF) (Go : xG) (Fz : xF) (Gz : xG) (Fq : xF) (Gq : xG) (f : Nat → Int64) (p1 p2 p3 : Int32) (res : Int32 × Int32 × xG) (hx9 : ¬ res.1 = 0 → ¬ res.1 = 1 → res.1 = 2) (hf : fX5_proof Fz Gz p1 p2 p3 = some res) : wC l yL_proof wsL_proof rmL_proof D sa [.ref h, .int p1, .int p2, .int p3, .ref o] ((wX5 cI cC cZ h a b d z q Fp Gp Fo Go Fz Gz Fq Gq) ++ [(o, .inl (cL, 1, .inr (.inl f)))]) (fun t => ((wX5 cI cC cZ h a b d z q Fp Gp Fo Go Fz t.2.2 Fq Gq) ++ [(o, .inl (cL, 1, .inr (.inl (if t.1 = 0 then vp_updL f 0 t.2.1.toInt64 else f))))])) (xTL cI cC cZ cL) res := by
  obtain ⟨r1, r2, r3⟩ := res
  refine w_of (cc := cL_proof) (maxL := 6) (hh := [(0, 12, 15, 29), (0, 12, 19, 13)]) (by decide) rfl (Nat.le_of_ble_eq_true rfl) ?_
  intro p e s m args below meth c A Q ls S I Z E hl
  replace hl : lv_has ls 6 [(0, .ref h), (1, .int p1), (2, .int p2), (3, .int p3), (4, .ref o)] := hl
  have htab := E.2.2.2.2
  refine lv_aload S.1 S.2.1 dL_proof_0 (lv_at hl 4 rfl) ?_
  refine lv_iconst (v := 0) S.1 S.2.1 dL_proof_2 (by decide) ?_
  refine lv_aload_n S.1 S.2.1 dL_proof_3 rfl (lv_at hl 0 rfl) ?_
  refine lv_iload_n S.1 S.2.1 dL_proof_4 rfl (lv_at hl 1 rfl) ?_
  refine lv_iload_n S.1 S.2.1 dL_proof_5 rfl (lv_at hl 2 rfl) ?_
  refine lv_iload_n S.1 S.2.1 dL_proof_6 rfl (lv_at hl 3 rfl) ?_
  refine w_cV (As := [.int p1, .int p2, .int p3]) (rest := [.int 0, .ref o]) (ws' := ((wX5 cI cC cZ h a b d z q Fp Gp Fo Go Fz r3 Fq Gq) ++ [(o, .inl (cL, 1, .inr (.inl f)))])) S I Z [0, 1, 2] rfl (tX5_proof l hlf sa D cI cC cZ h a b d z q Fp Gp Fo Go Fz Gz Fq Gq p1 p2 p3 (r1, r2, r3) hf) (cwV 3 S.2.2.2.2 gL_proof_X5_proof rfl rfl rfl (by decide +kernel) ⟨Nat.le_of_ble_eq_true rfl, Nat.le_of_ble_eq_true rfl⟩) 0 4 rfl rfl rfl [0, 1, 2, 3, 4, 5, 6, 7, 8, 9, 10, 11, 12, 13, 14, 15, 16, 17, 18, 19, 20, 21, 22, 23, 24, 25, 26] [27] [1, 2, 3, 4, 5, 6, 7, 8, 9, 10, 11, 12, 13, 14, 15, 16, 17, 18, 19, 20, 21, 22, 23, 24, 25, 26, 27, 0] rfl rfl rfl rfl (by decide) rfl rfl rfl hl rfl (Nat.le_of_ble_eq_true rfl) ⟨Nat.le_refl _, Nat.le_refl _⟩ dL_proof_7 (fun h0 H locs I => ?_) (fun h0 H locs q9 ce I hce hcv hcl => ?_)
  · replace h0 : r1 = 0 := h0
    refine W.eq (g2 := F0 m 10 ls [.int r2, .int 0, .ref o]) rfl ?_
    refine lv_i2l (v := r2.toInt64) S.1 S.2.1 dL_proof_10 rfl ?_
    refine x_last (f := f) (ws' := ((wX5 cI cC cZ h a b d z q Fp Gp Fo Go Fz r3 Fq Gq) ++ [(o, .inl (cL, 1, .inr (.inl (vp_updL f 0 r2.toInt64))))])) S I 27 3 rfl rfl w_in01 rfl dL_proof_11 (fun H locs I => ?_)
    refine lv_goto (tgt := 23) S.1 S.2.1 dL_proof_12 (by decide) ?_
    refine lv_iconst (v := 0) S.1 S.2.1 dL_proof_23 (by decide) ?_
    exact w_ri S E h0 I (by subst h0; rfl) dL_proof_24
  · replace h0 : ¬ r1 = 0 := h0
    replace hcl : s.vm.findClass (exX5_proof r1) = some ce.cls := hcl
    by_cases e1 : r1 = 1
    · refine w_catch (nm := yIOE) S Z htab [] ⟨0, 12, 15, 29⟩ [⟨0, 12, 19, 13⟩] rfl (fun _ h => nomatch h) rfl (by decide) (by decide +kernel) (by rw [e1]; rfl) (by decide) hce hcv hcl ?_
      refine lv_astore (lv' := [(5, .ref q9), (0, .ref h), (1, .int p1), (2, .int p2), (3, .int p3), (4, .ref o)]) S.1 S.2.1 dL_proof_15 hl (by decide) rfl (fun ls hl => ?_)
      refine lv_iconst (v := 1) S.1 S.2.1 dL_proof_17 (by decide) ?_
      exact w_ri S E e1 I (by subst e1; rfl) dL_proof_18
    refine w_catch (nm := yIAE) S Z htab [⟨0, 12, 15, 29⟩] ⟨0, 12, 19, 13⟩ [] rfl (by rw [show exX5_proof r1 = yIAE from by unfold exX5_proof; rw [if_neg e1]]; intro z hz; simp only [List.mem_cons, List.not_mem_nil, or_false] at hz; rcases hz with rfl <;> first | exact ⟨by decide, yIOE, by decide +kernel, Z.2.1.2.1⟩) rfl (by decide) (by decide +kernel) ((by unfold exX5_proof; rw [if_neg e1] : exX5_proof r1 = yIAE)) (by decide) hce hcv hcl ?_
    refine lv_astore (lv' := [(5, .ref q9), (0, .ref h), (1, .int p1), (2, .int p2), (3, .int p3), (4, .ref o)]) S.1 S.2.1 dL_proof_19 hl (by decide) rfl (fun ls hl => ?_)
    refine lv_iconst (v := 2) S.1 S.2.1 dL_proof_21 (by decide) ?_
    have e9 : r1 = 2 := hx9 h0 e1
    exact w_ri S E e9 I (by subst e9; rfl) dL_proof_22
def rmL_known : Room := { frames := 7, cells := 1, slots := 6, locals := 134 }
set_option maxHeartbeats 4000000 in
set_option maxRecDepth 100000 in
theorem tL_known (l : Launch) (hlf : l.stackTraces = false) (sa : Nat → Nat) (D : va_G) (cI cC cZ cL : ClassId) (h o : Nat) (a b d z q : Nat → Nat) (Fp : xF) (Gp : xG) (Fo : xF) (Go : xG) (Fz : xF) (Gz : xG) (Fq : xF) (Gq : xG) (f : Nat → Int64) (p1 p2 : Int32) (res : Int32 × Int32) (hx9 : ¬ res.1 = 0 → ¬ res.1 = 1 → res.1 = 2) (hf : fX5_known Fz Gz p1 p2 = some res) : wC l yL_known wsL_known rmL_known D sa [.ref h, .int p1, .int p2, .ref o] ((wX5 cI cC cZ h a b d z q Fp Gp Fo Go Fz Gz Fq Gq) ++ [(o, .inl (cL, 1, .inr (.inl f)))]) (fun t => ((wX5 cI cC cZ h a b d z q Fp Gp Fo Go Fz Gz Fq Gq) ++ [(o, .inl (cL, 1, .inr (.inl (if t.1 = 0 then vp_updL f 0 t.2.toInt64 else f))))])) (xTL cI cC cZ cL) res := by
  obtain ⟨r1, r2⟩ := res
  refine w_of (cc := cL_known) (maxL := 5) (hh := [(0, 10, 13, 29), (0, 10, 17, 13)]) (by decide) rfl (Nat.le_of_ble_eq_true rfl) ?_
  intro p e s m args below meth c A Q ls S I Z E hl
  replace hl : lv_has ls 5 [(0, .ref h), (1, .int p1), (2, .int p2), (3, .ref o)] := hl
  have htab := E.2.2.2.2
  refine lv_aload_n S.1 S.2.1 dL_known_0 rfl (lv_at hl 3 rfl) ?_
  refine lv_iconst (v := 0) S.1 S.2.1 dL_known_1 (by decide) ?_
  refine lv_aload_n S.1 S.2.1 dL_known_2 rfl (lv_at hl 0 rfl) ?_
  refine lv_iload_n S.1 S.2.1 dL_known_3 rfl (lv_at hl 1 rfl) ?_
  refine lv_iload_n S.1 S.2.1 dL_known_4 rfl (lv_at hl 2 rfl) ?_
  refine w_cV (As := [.int p1, .int p2]) (rest := [.int 0, .ref o]) (ws' := ((wX5 cI cC cZ h a b d z q Fp Gp Fo Go Fz Gz Fq Gq) ++ [(o, .inl (cL, 1, .inr (.inl f)))])) S I Z [0, 1, 2] rfl (tX5_known l hlf sa D cI cC cZ h a b d z q Fp Gp Fo Go Fz Gz Fq Gq p1 p2 (r1, r2) hf) (cwV 2 S.2.2.2.2 gL_known_X5_known rfl rfl rfl (by decide +kernel) ⟨Nat.le_of_ble_eq_true rfl, Nat.le_of_ble_eq_true rfl⟩) 0 4 rfl rfl rfl [0, 1, 2, 3, 4, 5, 6, 7, 8, 9, 10, 11, 12, 13, 14, 15, 16, 17, 18, 19, 20, 21, 22, 23, 24, 25, 26] [27] [1, 2, 3, 4, 5, 6, 7, 8, 9, 10, 11, 12, 13, 14, 15, 16, 17, 18, 19, 20, 21, 22, 23, 24, 25, 26, 27, 0] rfl rfl rfl rfl (by decide) rfl rfl rfl hl rfl (Nat.le_of_ble_eq_true rfl) ⟨Nat.le_refl _, Nat.le_refl _⟩ dL_known_5 (fun h0 H locs I => ?_) (fun h0 H locs q9 ce I hce hcv hcl => ?_)
  · replace h0 : r1 = 0 := h0
    refine W.eq (g2 := F0 m 8 ls [.int r2, .int 0, .ref o]) rfl ?_
    refine lv_i2l (v := r2.toInt64) S.1 S.2.1 dL_known_8 rfl ?_
    refine x_last (f := f) (ws' := ((wX5 cI cC cZ h a b d z q Fp Gp Fo Go Fz Gz Fq Gq) ++ [(o, .inl (cL, 1, .inr (.inl (vp_updL f 0 r2.toInt64))))])) S I 27 3 rfl rfl w_in01 rfl dL_known_9 (fun H locs I => ?_)
    refine lv_goto (tgt := 21) S.1 S.2.1 dL_known_10 (by decide) ?_
    refine lv_iconst (v := 0) S.1 S.2.1 dL_known_21 (by decide) ?_
    exact w_ri S E h0 I (by subst h0; rfl) dL_known_22
  · replace h0 : ¬ r1 = 0 := h0
    replace hcl : s.vm.findClass (exX5_known r1) = some ce.cls := hcl
    by_cases e1 : r1 = 1
    · refine w_catch (nm := yIOE) S Z htab [] ⟨0, 10, 13, 29⟩ [⟨0, 10, 17, 13⟩] rfl (fun _ h => nomatch h) rfl (by decide) (by decide +kernel) (by rw [e1]; rfl) (by decide) hce hcv hcl ?_
      refine lv_astore (lv' := [(4, .ref q9), (0, .ref h), (1, .int p1), (2, .int p2), (3, .ref o)]) S.1 S.2.1 dL_known_13 hl (by decide) rfl (fun ls hl => ?_)
      refine lv_iconst (v := 1) S.1 S.2.1 dL_known_15 (by decide) ?_
      exact w_ri S E e1 I (by subst e1; rfl) dL_known_16
    refine w_catch (nm := yIAE) S Z htab [⟨0, 10, 13, 29⟩] ⟨0, 10, 17, 13⟩ [] rfl (by rw [show exX5_known r1 = yIAE from by unfold exX5_known; rw [if_neg e1]]; intro z hz; simp only [List.mem_cons, List.not_mem_nil, or_false] at hz; rcases hz with rfl <;> first | exact ⟨by decide, yIOE, by decide +kernel, Z.2.1.2.1⟩) rfl (by decide) (by decide +kernel) ((by unfold exX5_known; rw [if_neg e1] : exX5_known r1 = yIAE)) (by decide) hce hcv hcl ?_
    refine lv_astore (lv' := [(4, .ref q9), (0, .ref h), (1, .int p1), (2, .int p2), (3, .ref o)]) S.1 S.2.1 dL_known_17 hl (by decide) rfl (fun ls hl => ?_)
    refine lv_iconst (v := 2) S.1 S.2.1 dL_known_19 (by decide) ?_
    have e9 : r1 = 2 := hx9 h0 e1
    exact w_ri S E e9 I (by subst e9; rfl) dL_known_20
def rmL_least : Room := { frames := 7, cells := 1, slots := 6, locals := 135 }
set_option maxHeartbeats 4000000 in
set_option maxRecDepth 100000 in
theorem tL_least (l : Launch) (hlf : l.stackTraces = false) (sa : Nat → Nat) (D : va_G) (cI cC cZ cL : ClassId) (h o : Nat) (a b d z q : Nat → Nat) (Fp : xF) (Gp : xG) (Fo : xF) (Go : xG) (Fz : xF) (Gz : xG) (Fq : xF) (Gq : xG) (f : Nat → Int64) (p1 p2 : Int32) (res : Int32 × Int32) (hx9 : ¬ res.1 = 0 → ¬ res.1 = 1 → res.1 = 2) (hf : fX5_least Fz Gz p1 p2 = some res) : wC l yL_least wsL_least rmL_least D sa [.ref h, .int p1, .int p2, .ref o] ((wX5 cI cC cZ h a b d z q Fp Gp Fo Go Fz Gz Fq Gq) ++ [(o, .inl (cL, 1, .inr (.inl f)))]) (fun t => ((wX5 cI cC cZ h a b d z q Fp Gp Fo Go Fz Gz Fq Gq) ++ [(o, .inl (cL, 1, .inr (.inl (if t.1 = 0 then vp_updL f 0 t.2.toInt64 else f))))])) (xTL cI cC cZ cL) res := by
  obtain ⟨r1, r2⟩ := res
  refine w_of (cc := cL_least) (maxL := 5) (hh := [(0, 10, 13, 29), (0, 10, 17, 13)]) (by decide) rfl (Nat.le_of_ble_eq_true rfl) ?_
  intro p e s m args below meth c A Q ls S I Z E hl
  replace hl : lv_has ls 5 [(0, .ref h), (1, .int p1), (2, .int p2), (3, .ref o)] := hl
  have htab := E.2.2.2.2
  refine lv_aload_n S.1 S.2.1 dL_least_0 rfl (lv_at hl 3 rfl) ?_
  refine lv_iconst (v := 0) S.1 S.2.1 dL_least_1 (by decide) ?_
  refine lv_aload_n S.1 S.2.1 dL_least_2 rfl (lv_at hl 0 rfl) ?_
  refine lv_iload_n S.1 S.2.1 dL_least_3 rfl (lv_at hl 1 rfl) ?_
  refine lv_iload_n S.1 S.2.1 dL_least_4 rfl (lv_at hl 2 rfl) ?_
  refine w_cV (As := [.int p1, .int p2]) (rest := [.int 0, .ref o]) (ws' := ((wX5 cI cC cZ h a b d z q Fp Gp Fo Go Fz Gz Fq Gq) ++ [(o, .inl (cL, 1, .inr (.inl f)))])) S I Z [0, 1, 2] rfl (tX5_least l hlf sa D cI cC cZ h a b d z q Fp Gp Fo Go Fz Gz Fq Gq p1 p2 (r1, r2) hf) (cwV 2 S.2.2.2.2 gL_least_X5_least rfl rfl rfl (by decide +kernel) ⟨Nat.le_of_ble_eq_true rfl, Nat.le_of_ble_eq_true rfl⟩) 0 4 rfl rfl rfl [0, 1, 2, 3, 4, 5, 6, 7, 8, 9, 10, 11, 12, 13, 14, 15, 16, 17, 18, 19, 20, 21, 22, 23, 24, 25, 26] [27] [1, 2, 3, 4, 5, 6, 7, 8, 9, 10, 11, 12, 13, 14, 15, 16, 17, 18, 19, 20, 21, 22, 23, 24, 25, 26, 27, 0] rfl rfl rfl rfl (by decide) rfl rfl rfl hl rfl (Nat.le_of_ble_eq_true rfl) ⟨Nat.le_refl _, Nat.le_refl _⟩ dL_least_5 (fun h0 H locs I => ?_) (fun h0 H locs q9 ce I hce hcv hcl => ?_)
  · replace h0 : r1 = 0 := h0
    refine W.eq (g2 := F0 m 8 ls [.int r2, .int 0, .ref o]) rfl ?_
    refine lv_i2l (v := r2.toInt64) S.1 S.2.1 dL_least_8 rfl ?_
    refine x_last (f := f) (ws' := ((wX5 cI cC cZ h a b d z q Fp Gp Fo Go Fz Gz Fq Gq) ++ [(o, .inl (cL, 1, .inr (.inl (vp_updL f 0 r2.toInt64))))])) S I 27 3 rfl rfl w_in01 rfl dL_least_9 (fun H locs I => ?_)
    refine lv_goto (tgt := 21) S.1 S.2.1 dL_least_10 (by decide) ?_
    refine lv_iconst (v := 0) S.1 S.2.1 dL_least_21 (by decide) ?_
    exact w_ri S E h0 I (by subst h0; rfl) dL_least_22
  · replace h0 : ¬ r1 = 0 := h0
    replace hcl : s.vm.findClass (exX5_least r1) = some ce.cls := hcl
    by_cases e1 : r1 = 1
    · refine w_catch (nm := yIOE) S Z htab [] ⟨0, 10, 13, 29⟩ [⟨0, 10, 17, 13⟩] rfl (fun _ h => nomatch h) rfl (by decide) (by decide +kernel) (by rw [e1]; rfl) (by decide) hce hcv hcl ?_
      refine lv_astore (lv' := [(4, .ref q9), (0, .ref h), (1, .int p1), (2, .int p2), (3, .ref o)]) S.1 S.2.1 dL_least_13 hl (by decide) rfl (fun ls hl => ?_)
      refine lv_iconst (v := 1) S.1 S.2.1 dL_least_15 (by decide) ?_
      exact w_ri S E e1 I (by subst e1; rfl) dL_least_16
    refine w_catch (nm := yIAE) S Z htab [⟨0, 10, 13, 29⟩] ⟨0, 10, 17, 13⟩ [] rfl (by rw [show exX5_least r1 = yIAE from by unfold exX5_least; rw [if_neg e1]]; intro z hz; simp only [List.mem_cons, List.not_mem_nil, or_false] at hz; rcases hz with rfl <;> first | exact ⟨by decide, yIOE, by decide +kernel, Z.2.1.2.1⟩) rfl (by decide) (by decide +kernel) ((by unfold exX5_least; rw [if_neg e1] : exX5_least r1 = yIAE)) (by decide) hce hcv hcl ?_
    refine lv_astore (lv' := [(4, .ref q9), (0, .ref h), (1, .int p1), (2, .int p2), (3, .ref o)]) S.1 S.2.1 dL_least_17 hl (by decide) rfl (fun ls hl => ?_)
    refine lv_iconst (v := 2) S.1 S.2.1 dL_least_19 (by decide) ?_
    have e9 : r1 = 2 := hx9 h0 e1
    exact w_ri S E e9 I (by subst e9; rfl) dL_least_20
def rmL_leastAnew : Room := { frames := 7, cells := 1, slots := 6, locals := 137 }
set_option maxHeartbeats 4000000 in
set_option maxRecDepth 100000 in
theorem tL_leastAnew (l : Launch) (hlf : l.stackTraces = false) (sa : Nat → Nat) (D : va_G) (cI cC cZ cL : ClassId) (h o : Nat) (a b d z q : Nat → Nat) (Fp : xF) (Gp : xG) (Fo : xF) (Go : xG) (Fz : xF) (Gz : xG) (Fq : xF) (Gq : xG) (f : Nat → Int64) (p1 p2 : Int32) (res : Int32 × Int32) (hx9 : ¬ res.1 = 0 → ¬ res.1 = 1 → res.1 = 2) (hf : fX5_leastAnew Fz Gz p1 p2 = some res) : wC l yL_leastAnew wsL_leastAnew rmL_leastAnew D sa [.ref h, .int p1, .int p2, .ref o] ((wX5 cI cC cZ h a b d z q Fp Gp Fo Go Fz Gz Fq Gq) ++ [(o, .inl (cL, 1, .inr (.inl f)))]) (fun t => ((wX5 cI cC cZ h a b d z q Fp Gp Fo Go Fz Gz Fq Gq) ++ [(o, .inl (cL, 1, .inr (.inl (if t.1 = 0 then vp_updL f 0 t.2.toInt64 else f))))])) (xTL cI cC cZ cL) res := by
  obtain ⟨r1, r2⟩ := res
  refine w_of (cc := cL_leastAnew) (maxL := 5) (hh := [(0, 10, 13, 29), (0, 10, 17, 13)]) (by decide) rfl (Nat.le_of_ble_eq_true rfl) ?_
  intro p e s m args below meth c A Q ls S I Z E hl
  replace hl : lv_has ls 5 [(0, .ref h), (1, .int p1), (2, .int p2), (3, .ref o)] := hl
  have htab := E.2.2.2.2
  refine lv_aload_n S.1 S.2.1 dL_leastAnew_0 rfl (lv_at hl 3 rfl) ?_
  refine lv_iconst (v := 0) S.1 S.2.1 dL_leastAnew_1 (by decide) ?_
  refine lv_aload_n S.1 S.2.1 dL_leastAnew_2 rfl (lv_at hl 0 rfl) ?_
  refine lv_iload_n S.1 S.2.1 dL_leastAnew_3 rfl (lv_at hl 1 rfl) ?_
  refine lv_iload_n S.1 S.2.1 dL_leastAnew_4 rfl (lv_at hl 2 rfl) ?_
  refine w_cV (As := [.int p1, .int p2]) (rest := [.int 0, .ref o]) (ws' := ((wX5 cI cC cZ h a b d z q Fp Gp Fo Go Fz Gz Fq Gq) ++ [(o, .inl (cL, 1, .inr (.inl f)))])) S I Z [0, 1, 2] rfl (tX5_leastAnew l hlf sa D cI cC cZ h a b d z q Fp Gp Fo Go Fz Gz Fq Gq p1 p2 (r1, r2) hf) (cwV 2 S.2.2.2.2 gL_leastAnew_X5_leastAnew rfl rfl rfl (by decide +kernel) ⟨Nat.le_of_ble_eq_true rfl, Nat.le_of_ble_eq_true rfl⟩) 0 4 rfl rfl rfl [0, 1, 2, 3, 4, 5, 6, 7, 8, 9, 10, 11, 12, 13, 14, 15, 16, 17, 18, 19, 20, 21, 22, 23, 24, 25, 26] [27] [1, 2, 3, 4, 5, 6, 7, 8, 9, 10, 11, 12, 13, 14, 15, 16, 17, 18, 19, 20, 21, 22, 23, 24, 25, 26, 27, 0] rfl rfl rfl rfl (by decide) rfl rfl rfl hl rfl (Nat.le_of_ble_eq_true rfl) ⟨Nat.le_refl _, Nat.le_refl _⟩ dL_leastAnew_5 (fun h0 H locs I => ?_) (fun h0 H locs q9 ce I hce hcv hcl => ?_)
  · replace h0 : r1 = 0 := h0
    refine W.eq (g2 := F0 m 8 ls [.int r2, .int 0, .ref o]) rfl ?_
    refine lv_i2l (v := r2.toInt64) S.1 S.2.1 dL_leastAnew_8 rfl ?_
    refine x_last (f := f) (ws' := ((wX5 cI cC cZ h a b d z q Fp Gp Fo Go Fz Gz Fq Gq) ++ [(o, .inl (cL, 1, .inr (.inl (vp_updL f 0 r2.toInt64))))])) S I 27 3 rfl rfl w_in01 rfl dL_leastAnew_9 (fun H locs I => ?_)
    refine lv_goto (tgt := 21) S.1 S.2.1 dL_leastAnew_10 (by decide) ?_
    refine lv_iconst (v := 0) S.1 S.2.1 dL_leastAnew_21 (by decide) ?_
    exact w_ri S E h0 I (by subst h0; rfl) dL_leastAnew_22
  · replace h0 : ¬ r1 = 0 := h0
    replace hcl : s.vm.findClass (exX5_leastAnew r1) = some ce.cls := hcl
    by_cases e1 : r1 = 1
    · refine w_catch (nm := yIOE) S Z htab [] ⟨0, 10, 13, 29⟩ [⟨0, 10, 17, 13⟩] rfl (fun _ h => nomatch h) rfl (by decide) (by decide +kernel) (by rw [e1]; rfl) (by decide) hce hcv hcl ?_
      refine lv_astore (lv' := [(4, .ref q9), (0, .ref h), (1, .int p1), (2, .int p2), (3, .ref o)]) S.1 S.2.1 dL_leastAnew_13 hl (by decide) rfl (fun ls hl => ?_)
      refine lv_iconst (v := 1) S.1 S.2.1 dL_leastAnew_15 (by decide) ?_
      exact w_ri S E e1 I (by subst e1; rfl) dL_leastAnew_16
    refine w_catch (nm := yIAE) S Z htab [⟨0, 10, 13, 29⟩] ⟨0, 10, 17, 13⟩ [] rfl (by rw [show exX5_leastAnew r1 = yIAE from by unfold exX5_leastAnew; rw [if_neg e1]]; intro z hz; simp only [List.mem_cons, List.not_mem_nil, or_false] at hz; rcases hz with rfl <;> first | exact ⟨by decide, yIOE, by decide +kernel, Z.2.1.2.1⟩) rfl (by decide) (by decide +kernel) ((by unfold exX5_leastAnew; rw [if_neg e1] : exX5_leastAnew r1 = yIAE)) (by decide) hce hcv hcl ?_
    refine lv_astore (lv' := [(4, .ref q9), (0, .ref h), (1, .int p1), (2, .int p2), (3, .ref o)]) S.1 S.2.1 dL_leastAnew_17 hl (by decide) rfl (fun ls hl => ?_)
    refine lv_iconst (v := 2) S.1 S.2.1 dL_leastAnew_19 (by decide) ?_
    have e9 : r1 = 2 := hx9 h0 e1
    exact w_ri S E e9 I (by subst e9; rfl) dL_leastAnew_20
def rmL_ofPrinciple : Room := { frames := 7, cells := 1, slots := 6, locals := 104 }
set_option maxHeartbeats 4000000 in
set_option maxRecDepth 100000 in
theorem tL_ofPrinciple (l : Launch) (hlf : l.stackTraces = false) (sa : Nat → Nat) (D : va_G) (cI cC cZ cL : ClassId) (h o : Nat) (a b d z q : Nat → Nat) (Fp : xF) (Gp : xG) (Fo : xF) (Go : xG) (Fz : xF) (Gz : xG) (Fq : xF) (Gq : xG) (f : Nat → Int64) (p1 p2 : Int32) (res : Int32 × Int32) (hx9 : ¬ res.1 = 0 → ¬ res.1 = 1 → res.1 = 2) (hf : fX5_ofPrinciple Fz Gz p1 p2 = some res) : wC l yL_ofPrinciple wsL_ofPrinciple rmL_ofPrinciple D sa [.ref h, .int p1, .int p2, .ref o] ((wX5 cI cC cZ h a b d z q Fp Gp Fo Go Fz Gz Fq Gq) ++ [(o, .inl (cL, 1, .inr (.inl f)))]) (fun t => ((wX5 cI cC cZ h a b d z q Fp Gp Fo Go Fz Gz Fq Gq) ++ [(o, .inl (cL, 1, .inr (.inl (if t.1 = 0 then vp_updL f 0 t.2.toInt64 else f))))])) (xTL cI cC cZ cL) res := by
  obtain ⟨r1, r2⟩ := res
  refine w_of (cc := cL_ofPrinciple) (maxL := 5) (hh := [(0, 10, 13, 29), (0, 10, 17, 13)]) (by decide) rfl (Nat.le_of_ble_eq_true rfl) ?_
  intro p e s m args below meth c A Q ls S I Z E hl
  replace hl : lv_has ls 5 [(0, .ref h), (1, .int p1), (2, .int p2), (3, .ref o)] := hl
  have htab := E.2.2.2.2
  refine lv_aload_n S.1 S.2.1 dL_ofPrinciple_0 rfl (lv_at hl 3 rfl) ?_
  refine lv_iconst (v := 0) S.1 S.2.1 dL_ofPrinciple_1 (by decide) ?_
  refine lv_aload_n S.1 S.2.1 dL_ofPrinciple_2 rfl (lv_at hl 0 rfl) ?_
  refine lv_iload_n S.1 S.2.1 dL_ofPrinciple_3 rfl (lv_at hl 1 rfl) ?_
  refine lv_iload_n S.1 S.2.1 dL_ofPrinciple_4 rfl (lv_at hl 2 rfl) ?_
  refine w_cV (As := [.int p1, .int p2]) (rest := [.int 0, .ref o]) (ws' := ((wX5 cI cC cZ h a b d z q Fp Gp Fo Go Fz Gz Fq Gq) ++ [(o, .inl (cL, 1, .inr (.inl f)))])) S I Z [0, 1, 2] rfl (tX5_ofPrinciple l hlf sa D cI cC cZ h a b d z q Fp Gp Fo Go Fz Gz Fq Gq p1 p2 (r1, r2) hf) (cwV 2 S.2.2.2.2 gL_ofPrinciple_X5_ofPrinciple rfl rfl rfl (by decide +kernel) ⟨Nat.le_of_ble_eq_true rfl, Nat.le_of_ble_eq_true rfl⟩) 0 4 rfl rfl rfl [0, 1, 2, 3, 4, 5, 6, 7, 8, 9, 10, 11, 12, 13, 14, 15, 16, 17, 18, 19, 20, 21, 22, 23, 24, 25, 26] [27] [1, 2, 3, 4, 5, 6, 7, 8, 9, 10, 11, 12, 13, 14, 15, 16, 17, 18, 19, 20, 21, 22, 23, 24, 25, 26, 27, 0] rfl rfl rfl rfl (by decide) rfl rfl rfl hl rfl (Nat.le_of_ble_eq_true rfl) ⟨Nat.le_refl _, Nat.le_refl _⟩ dL_ofPrinciple_5 (fun h0 H locs I => ?_) (fun h0 H locs q9 ce I hce hcv hcl => ?_)
  · replace h0 : r1 = 0 := h0
    refine W.eq (g2 := F0 m 8 ls [.int r2, .int 0, .ref o]) rfl ?_
    refine lv_i2l (v := r2.toInt64) S.1 S.2.1 dL_ofPrinciple_8 rfl ?_
    refine x_last (f := f) (ws' := ((wX5 cI cC cZ h a b d z q Fp Gp Fo Go Fz Gz Fq Gq) ++ [(o, .inl (cL, 1, .inr (.inl (vp_updL f 0 r2.toInt64))))])) S I 27 3 rfl rfl w_in01 rfl dL_ofPrinciple_9 (fun H locs I => ?_)
    refine lv_goto (tgt := 21) S.1 S.2.1 dL_ofPrinciple_10 (by decide) ?_
    refine lv_iconst (v := 0) S.1 S.2.1 dL_ofPrinciple_21 (by decide) ?_
    exact w_ri S E h0 I (by subst h0; rfl) dL_ofPrinciple_22
  · replace h0 : ¬ r1 = 0 := h0
    replace hcl : s.vm.findClass (exX5_ofPrinciple r1) = some ce.cls := hcl
    by_cases e1 : r1 = 1
    · refine w_catch (nm := yIOE) S Z htab [] ⟨0, 10, 13, 29⟩ [⟨0, 10, 17, 13⟩] rfl (fun _ h => nomatch h) rfl (by decide) (by decide +kernel) (by rw [e1]; rfl) (by decide) hce hcv hcl ?_
      refine lv_astore (lv' := [(4, .ref q9), (0, .ref h), (1, .int p1), (2, .int p2), (3, .ref o)]) S.1 S.2.1 dL_ofPrinciple_13 hl (by decide) rfl (fun ls hl => ?_)
      refine lv_iconst (v := 1) S.1 S.2.1 dL_ofPrinciple_15 (by decide) ?_
      exact w_ri S E e1 I (by subst e1; rfl) dL_ofPrinciple_16
    refine w_catch (nm := yIAE) S Z htab [⟨0, 10, 13, 29⟩] ⟨0, 10, 17, 13⟩ [] rfl (by rw [show exX5_ofPrinciple r1 = yIAE from by unfold exX5_ofPrinciple; rw [if_neg e1]]; intro z hz; simp only [List.mem_cons, List.not_mem_nil, or_false] at hz; rcases hz with rfl <;> first | exact ⟨by decide, yIOE, by decide +kernel, Z.2.1.2.1⟩) rfl (by decide) (by decide +kernel) ((by unfold exX5_ofPrinciple; rw [if_neg e1] : exX5_ofPrinciple r1 = yIAE)) (by decide) hce hcv hcl ?_
    refine lv_astore (lv' := [(4, .ref q9), (0, .ref h), (1, .int p1), (2, .int p2), (3, .ref o)]) S.1 S.2.1 dL_ofPrinciple_17 hl (by decide) rfl (fun ls hl => ?_)
    refine lv_iconst (v := 2) S.1 S.2.1 dL_ofPrinciple_19 (by decide) ?_
    have e9 : r1 = 2 := hx9 h0 e1
    exact w_ri S E e9 I (by subst e9; rfl) dL_ofPrinciple_20
def rmL_problem : Room := { frames := 7, cells := 1, slots := 6, locals := 105 }
set_option maxHeartbeats 4000000 in
set_option maxRecDepth 100000 in
theorem tL_problem (l : Launch) (hlf : l.stackTraces = false) (sa : Nat → Nat) (D : va_G) (cI cC cZ cL : ClassId) (h o : Nat) (a b d z q : Nat → Nat) (Fp : xF) (Gp : xG) (Fo : xF) (Go : xG) (Fz : xF) (Gz : xG) (Fq : xF) (Gq : xG) (f : Nat → Int64) (p1 p2 p3 : Int32) (res : Int32 × Int32 × xF × xG) (hx9 : ¬ res.1 = 0 → ¬ res.1 = 1 → res.1 = 2) (hf : fX5_problem Fq Gq p1 p2 p3 = some res) : wC l yL_problem wsL_problem rmL_problem D sa [.ref h, .int p1, .int p2, .int p3, .ref o] ((wX5 cI cC cZ h a b d z q Fp Gp Fo Go Fz Gz Fq Gq) ++ [(o, .inl (cL, 1, .inr (.inl f)))]) (fun t => ((wX5 cI cC cZ h a b d z q Fp Gp Fo Go Fz Gz t.2.2.1 t.2.2.2) ++ [(o, .inl (cL, 1, .inr (.inl (if t.1 = 0 then vp_updL f 0 t.2.1.toInt64 else f))))])) (xTL cI cC cZ cL) res := by
  obtain ⟨r1, r2, r3, r4⟩ := res
  refine w_of (cc := cL_problem) (maxL := 6) (hh := [(0, 12, 15, 13), (0, 12, 19, 15)]) (by decide) rfl (Nat.le_of_ble_eq_true rfl) ?_
  intro p e s m args below meth c A Q ls S I Z E hl
  replace hl : lv_has ls 6 [(0, .ref h), (1, .int p1), (2, .int p2), (3, .int p3), (4, .ref o)] := hl
  have htab := E.2.2.2.2
  refine lv_aload S.1 S.2.1 dL_problem_0 (lv_at hl 4 rfl) ?_
  refine lv_iconst (v := 0) S.1 S.2.1 dL_problem_2 (by decide) ?_
  refine lv_aload_n S.1 S.2.1 dL_problem_3 rfl (lv_at hl 0 rfl) ?_
  refine lv_iload_n S.1 S.2.1 dL_problem_4 rfl (lv_at hl 1 rfl) ?_
  refine lv_iload_n S.1 S.2.1 dL_problem_5 rfl (lv_at hl 2 rfl) ?_
  refine lv_iload_n S.1 S.2.1 dL_problem_6 rfl (lv_at hl 3 rfl) ?_
  refine w_cV (As := [.int p1, .int p2, .int p3]) (rest := [.int 0, .ref o]) (ws' := ((wX5 cI cC cZ h a b d z q Fp Gp Fo Go Fz Gz r3 r4) ++ [(o, .inl (cL, 1, .inr (.inl f)))])) S I Z [0, 1, 2] rfl (tX5_problem l hlf sa D cI cC cZ h a b d z q Fp Gp Fo Go Fz Gz Fq Gq p1 p2 p3 (r1, r2, r3, r4) hf) (cwV 3 S.2.2.2.2 gL_problem_X5_problem rfl rfl rfl (by decide +kernel) ⟨Nat.le_of_ble_eq_true rfl, Nat.le_of_ble_eq_true rfl⟩) 0 4 rfl rfl rfl [0, 1, 2, 3, 4, 5, 6, 7, 8, 9, 10, 11, 12, 13, 14, 15, 16, 17, 18, 19, 20, 21, 22, 23, 24, 25, 26] [27] [1, 2, 3, 4, 5, 6, 7, 8, 9, 10, 11, 12, 13, 14, 15, 16, 17, 18, 19, 20, 21, 22, 23, 24, 25, 26, 27, 0] rfl rfl rfl rfl (by decide) rfl rfl rfl hl rfl (Nat.le_of_ble_eq_true rfl) ⟨Nat.le_refl _, Nat.le_refl _⟩ dL_problem_7 (fun h0 H locs I => ?_) (fun h0 H locs q9 ce I hce hcv hcl => ?_)
  · replace h0 : r1 = 0 := h0
    refine W.eq (g2 := F0 m 10 ls [.int r2, .int 0, .ref o]) rfl ?_
    refine lv_i2l (v := r2.toInt64) S.1 S.2.1 dL_problem_10 rfl ?_
    refine x_last (f := f) (ws' := ((wX5 cI cC cZ h a b d z q Fp Gp Fo Go Fz Gz r3 r4) ++ [(o, .inl (cL, 1, .inr (.inl (vp_updL f 0 r2.toInt64))))])) S I 27 3 rfl rfl w_in01 rfl dL_problem_11 (fun H locs I => ?_)
    refine lv_goto (tgt := 23) S.1 S.2.1 dL_problem_12 (by decide) ?_
    refine lv_iconst (v := 0) S.1 S.2.1 dL_problem_23 (by decide) ?_
    exact w_ri S E h0 I (by subst h0; rfl) dL_problem_24
  · replace h0 : ¬ r1 = 0 := h0
    replace hcl : s.vm.findClass (exX5_problem r1) = some ce.cls := hcl
    by_cases e1 : r1 = 1
    · refine w_catch (nm := yIAE) S Z htab [] ⟨0, 12, 15, 13⟩ [⟨0, 12, 19, 15⟩] rfl (fun _ h => nomatch h) rfl (by decide) (by decide +kernel) (by rw [e1]; rfl) (by decide) hce hcv hcl ?_
      refine lv_astore (lv' := [(5, .ref q9), (0, .ref h), (1, .int p1), (2, .int p2), (3, .int p3), (4, .ref o)]) S.1 S.2.1 dL_problem_15 hl (by decide) rfl (fun ls hl => ?_)
      refine lv_iconst (v := 1) S.1 S.2.1 dL_problem_17 (by decide) ?_
      exact w_ri S E e1 I (by subst e1; rfl) dL_problem_18
    refine w_catch (nm := yISE) S Z htab [⟨0, 12, 15, 13⟩] ⟨0, 12, 19, 15⟩ [] rfl (by rw [show exX5_problem r1 = yISE from by unfold exX5_problem; rw [if_neg e1]]; intro z hz; simp only [List.mem_cons, List.not_mem_nil, or_false] at hz; rcases hz with rfl <;> first | exact ⟨by decide, yIAE, by decide +kernel, Z.2.1.2.2.1⟩) rfl (by decide) (by decide +kernel) ((by unfold exX5_problem; rw [if_neg e1] : exX5_problem r1 = yISE)) (by decide) hce hcv hcl ?_
    refine lv_astore (lv' := [(5, .ref q9), (0, .ref h), (1, .int p1), (2, .int p2), (3, .int p3), (4, .ref o)]) S.1 S.2.1 dL_problem_19 hl (by decide) rfl (fun ls hl => ?_)
    refine lv_iconst (v := 2) S.1 S.2.1 dL_problem_21 (by decide) ?_
    have e9 : r1 = 2 := hx9 h0 e1
    exact w_ri S E e9 I (by subst e9; rfl) dL_problem_22
def rmL_product : Room := { frames := 7, cells := 1, slots := 6, locals := 104 }
set_option maxHeartbeats 4000000 in
set_option maxRecDepth 100000 in
theorem tL_product (l : Launch) (hlf : l.stackTraces = false) (sa : Nat → Nat) (D : va_G) (cI cC cZ cL : ClassId) (h o : Nat) (a b d z q : Nat → Nat) (Fp : xF) (Gp : xG) (Fo : xF) (Go : xG) (Fz : xF) (Gz : xG) (Fq : xF) (Gq : xG) (f : Nat → Int64) (p1 p2 : Int32) (res : Int32 × Int32 × xF × xG) (hx9 : ¬ res.1 = 0 → ¬ res.1 = 1 → res.1 = 2) (hf : fX5_product Fq Gq p1 p2 = some res) : wC l yL_product wsL_product rmL_product D sa [.ref h, .int p1, .int p2, .ref o] ((wX5 cI cC cZ h a b d z q Fp Gp Fo Go Fz Gz Fq Gq) ++ [(o, .inl (cL, 1, .inr (.inl f)))]) (fun t => ((wX5 cI cC cZ h a b d z q Fp Gp Fo Go Fz Gz t.2.2.1 t.2.2.2) ++ [(o, .inl (cL, 1, .inr (.inl (if t.1 = 0 then vp_updL f 0 t.2.1.toInt64 else f))))])) (xTL cI cC cZ cL) res := by
  obtain ⟨r1, r2, r3, r4⟩ := res
  refine w_of (cc := cL_product) (maxL := 5) (hh := [(0, 10, 13, 29), (0, 10, 17, 15)]) (by decide) rfl (Nat.le_of_ble_eq_true rfl) ?_
  intro p e s m args below meth c A Q ls S I Z E hl
  replace hl : lv_has ls 5 [(0, .ref h), (1, .int p1), (2, .int p2), (3, .ref o)] := hl
  have htab := E.2.2.2.2
  refine lv_aload_n S.1 S.2.1 dL_product_0 rfl (lv_at hl 3 rfl) ?_
  refine lv_iconst (v := 0) S.1 S.2.1 dL_product_1 (by decide) ?_
  refine lv_aload_n S.1 S.2.1 dL_product_2 rfl (lv_at hl 0 rfl) ?_
  refine lv_iload_n S.1 S.2.1 dL_product_3 rfl (lv_at hl 1 rfl) ?_
  refine lv_iload_n S.1 S.2.1 dL_product_4 rfl (lv_at hl 2 rfl) ?_
  refine w_cV (As := [.int p1, .int p2]) (rest := [.int 0, .ref o]) (ws' := ((wX5 cI cC cZ h a b d z q Fp Gp Fo Go Fz Gz r3 r4) ++ [(o, .inl (cL, 1, .inr (.inl f)))])) S I Z [0, 1, 2] rfl (tX5_product l hlf sa D cI cC cZ h a b d z q Fp Gp Fo Go Fz Gz Fq Gq p1 p2 (r1, r2, r3, r4) hf) (cwV 2 S.2.2.2.2 gL_product_X5_product rfl rfl rfl (by decide +kernel) ⟨Nat.le_of_ble_eq_true rfl, Nat.le_of_ble_eq_true rfl⟩) 0 4 rfl rfl rfl [0, 1, 2, 3, 4, 5, 6, 7, 8, 9, 10, 11, 12, 13, 14, 15, 16, 17, 18, 19, 20, 21, 22, 23, 24, 25, 26] [27] [1, 2, 3, 4, 5, 6, 7, 8, 9, 10, 11, 12, 13, 14, 15, 16, 17, 18, 19, 20, 21, 22, 23, 24, 25, 26, 27, 0] rfl rfl rfl rfl (by decide) rfl rfl rfl hl rfl (Nat.le_of_ble_eq_true rfl) ⟨Nat.le_refl _, Nat.le_refl _⟩ dL_product_5 (fun h0 H locs I => ?_) (fun h0 H locs q9 ce I hce hcv hcl => ?_)
  · replace h0 : r1 = 0 := h0
    refine W.eq (g2 := F0 m 8 ls [.int r2, .int 0, .ref o]) rfl ?_
    refine lv_i2l (v := r2.toInt64) S.1 S.2.1 dL_product_8 rfl ?_
    refine x_last (f := f) (ws' := ((wX5 cI cC cZ h a b d z q Fp Gp Fo Go Fz Gz r3 r4) ++ [(o, .inl (cL, 1, .inr (.inl (vp_updL f 0 r2.toInt64))))])) S I 27 3 rfl rfl w_in01 rfl dL_product_9 (fun H locs I => ?_)
    refine lv_goto (tgt := 21) S.1 S.2.1 dL_product_10 (by decide) ?_
    refine lv_iconst (v := 0) S.1 S.2.1 dL_product_21 (by decide) ?_
    exact w_ri S E h0 I (by subst h0; rfl) dL_product_22
  · replace h0 : ¬ r1 = 0 := h0
    replace hcl : s.vm.findClass (exX5_product r1) = some ce.cls := hcl
    by_cases e1 : r1 = 1
    · refine w_catch (nm := yIOE) S Z htab [] ⟨0, 10, 13, 29⟩ [⟨0, 10, 17, 15⟩] rfl (fun _ h => nomatch h) rfl (by decide) (by decide +kernel) (by rw [e1]; rfl) (by decide) hce hcv hcl ?_
      refine lv_astore (lv' := [(4, .ref q9), (0, .ref h), (1, .int p1), (2, .int p2), (3, .ref o)]) S.1 S.2.1 dL_product_13 hl (by decide) rfl (fun ls hl => ?_)
      refine lv_iconst (v := 1) S.1 S.2.1 dL_product_15 (by decide) ?_
      exact w_ri S E e1 I (by subst e1; rfl) dL_product_16
    refine w_catch (nm := yISE) S Z htab [⟨0, 10, 13, 29⟩] ⟨0, 10, 17, 15⟩ [] rfl (by rw [show exX5_product r1 = yISE from by unfold exX5_product; rw [if_neg e1]]; intro z hz; simp only [List.mem_cons, List.not_mem_nil, or_false] at hz; rcases hz with rfl <;> first | exact ⟨by decide, yIOE, by decide +kernel, Z.2.1.2.2.2.1⟩) rfl (by decide) (by decide +kernel) ((by unfold exX5_product; rw [if_neg e1] : exX5_product r1 = yISE)) (by decide) hce hcv hcl ?_
    refine lv_astore (lv' := [(4, .ref q9), (0, .ref h), (1, .int p1), (2, .int p2), (3, .ref o)]) S.1 S.2.1 dL_product_17 hl (by decide) rfl (fun ls hl => ?_)
    refine lv_iconst (v := 2) S.1 S.2.1 dL_product_19 (by decide) ?_
    have e9 : r1 = 2 := hx9 h0 e1
    exact w_ri S E e9 I (by subst e9; rfl) dL_product_20
def rmL_reduces : Room := { frames := 7, cells := 1, slots := 6, locals := 138 }
set_option maxHeartbeats 4000000 in
set_option maxRecDepth 100000 in
theorem tL_reduces (l : Launch) (hlf : l.stackTraces = false) (sa : Nat → Nat) (D : va_G) (cI cC cZ cL : ClassId) (h o : Nat) (a b d z q : Nat → Nat) (Fp : xF) (Gp : xG) (Fo : xF) (Go : xG) (Fz : xF) (Gz : xG) (Fq : xF) (Gq : xG) (f : Nat → Int64) (p1 p2 : Int32) (res : Int32 × Int32 × xG) (hx9 : ¬ res.1 = 0 → res.1 = 1) (hf : fX5_reduces Fq Gq p1 p2 = some res) : wC l yL_reduces wsL_reduces rmL_reduces D sa [.ref h, .int p1, .int p2, .ref o] ((wX5 cI cC cZ h a b d z q Fp Gp Fo Go Fz Gz Fq Gq) ++ [(o, .inl (cL, 1, .inr (.inl f)))]) (fun t => ((wX5 cI cC cZ h a b d z q Fp Gp Fo Go Fz Gz Fq t.2.2) ++ [(o, .inl (cL, 1, .inr (.inl (if t.1 = 0 then vp_updL f 0 t.2.1.toInt64 else f))))])) (xTL cI cC cZ cL) res := by
  obtain ⟨r1, r2, r3⟩ := res
  refine w_of (cc := cL_reduces) (maxL := 5) (hh := [(0, 10, 13, 29)]) (by decide) rfl (Nat.le_of_ble_eq_true rfl) ?_
  intro p e s m args below meth c A Q ls S I Z E hl
  replace hl : lv_has ls 5 [(0, .ref h), (1, .int p1), (2, .int p2), (3, .ref o)] := hl
  have htab := E.2.2.2.2
  refine lv_aload_n S.1 S.2.1 dL_reduces_0 rfl (lv_at hl 3 rfl) ?_
  refine lv_iconst (v := 0) S.1 S.2.1 dL_reduces_1 (by decide) ?_
  refine lv_aload_n S.1 S.2.1 dL_reduces_2 rfl (lv_at hl 0 rfl) ?_
  refine lv_iload_n S.1 S.2.1 dL_reduces_3 rfl (lv_at hl 1 rfl) ?_
  refine lv_iload_n S.1 S.2.1 dL_reduces_4 rfl (lv_at hl 2 rfl) ?_
  refine w_cV (As := [.int p1, .int p2]) (rest := [.int 0, .ref o]) (ws' := ((wX5 cI cC cZ h a b d z q Fp Gp Fo Go Fz Gz Fq r3) ++ [(o, .inl (cL, 1, .inr (.inl f)))])) S I Z [0, 1, 2] rfl (tX5_reduces l hlf sa D cI cC cZ h a b d z q Fp Gp Fo Go Fz Gz Fq Gq p1 p2 (r1, r2, r3) hf) (cwV 2 S.2.2.2.2 gL_reduces_X5_reduces rfl rfl rfl (by decide +kernel) ⟨Nat.le_of_ble_eq_true rfl, Nat.le_of_ble_eq_true rfl⟩) 0 4 rfl rfl rfl [0, 1, 2, 3, 4, 5, 6, 7, 8, 9, 10, 11, 12, 13, 14, 15, 16, 17, 18, 19, 20, 21, 22, 23, 24, 25, 26] [27] [1, 2, 3, 4, 5, 6, 7, 8, 9, 10, 11, 12, 13, 14, 15, 16, 17, 18, 19, 20, 21, 22, 23, 24, 25, 26, 27, 0] rfl rfl rfl rfl (by decide) rfl rfl rfl hl rfl (Nat.le_of_ble_eq_true rfl) ⟨Nat.le_refl _, Nat.le_refl _⟩ dL_reduces_5 (fun h0 H locs I => ?_) (fun h0 H locs q9 ce I hce hcv hcl => ?_)
  · replace h0 : r1 = 0 := h0
    refine W.eq (g2 := F0 m 8 ls [.int r2, .int 0, .ref o]) rfl ?_
    refine lv_i2l (v := r2.toInt64) S.1 S.2.1 dL_reduces_8 rfl ?_
    refine x_last (f := f) (ws' := ((wX5 cI cC cZ h a b d z q Fp Gp Fo Go Fz Gz Fq r3) ++ [(o, .inl (cL, 1, .inr (.inl (vp_updL f 0 r2.toInt64))))])) S I 27 3 rfl rfl w_in01 rfl dL_reduces_9 (fun H locs I => ?_)
    refine lv_goto (tgt := 17) S.1 S.2.1 dL_reduces_10 (by decide) ?_
    refine lv_iconst (v := 0) S.1 S.2.1 dL_reduces_17 (by decide) ?_
    exact w_ri S E h0 I (by subst h0; rfl) dL_reduces_18
  · replace h0 : ¬ r1 = 0 := h0
    replace hcl : s.vm.findClass (exX5_reduces r1) = some ce.cls := hcl
    refine w_catch (nm := yIOE) S Z htab [] ⟨0, 10, 13, 29⟩ [] rfl (fun _ h => nomatch h) rfl (by decide) (by decide +kernel) (rfl) (by decide) hce hcv hcl ?_
    refine lv_astore (lv' := [(4, .ref q9), (0, .ref h), (1, .int p1), (2, .int p2), (3, .ref o)]) S.1 S.2.1 dL_reduces_13 hl (by decide) rfl (fun ls hl => ?_)
    refine lv_iconst (v := 1) S.1 S.2.1 dL_reduces_15 (by decide) ?_
    have e9 : r1 = 1 := hx9 h0
    exact w_ri S E e9 I (by subst e9; rfl) dL_reduces_16
def rmL_reducesAnew : Room := { frames := 7, cells := 1, slots := 6, locals := 138 }
set_option maxHeartbeats 4000000 in
set_option maxRecDepth 100000 in
theorem tL_reducesAnew (l : Launch) (hlf : l.stackTraces = false) (sa : Nat → Nat) (D : va_G) (cI cC cZ cL : ClassId) (h o : Nat) (a b d z q : Nat → Nat) (Fp : xF) (Gp : xG) (Fo : xF) (Go : xG) (Fz : xF) (Gz : xG) (Fq : xF) (Gq : xG) (f : Nat → Int64) (p1 p2 : Int32) (res : Int32 × Int32 × xG) (hx9 : ¬ res.1 = 0 → res.1 = 1) (hf : fX5_reducesAnew Fq Gq p1 p2 = some res) : wC l yL_reducesAnew wsL_reducesAnew rmL_reducesAnew D sa [.ref h, .int p1, .int p2, .ref o] ((wX5 cI cC cZ h a b d z q Fp Gp Fo Go Fz Gz Fq Gq) ++ [(o, .inl (cL, 1, .inr (.inl f)))]) (fun t => ((wX5 cI cC cZ h a b d z q Fp Gp Fo Go Fz Gz Fq t.2.2) ++ [(o, .inl (cL, 1, .inr (.inl (if t.1 = 0 then vp_updL f 0 t.2.1.toInt64 else f))))])) (xTL cI cC cZ cL) res := by
  obtain ⟨r1, r2, r3⟩ := res
  refine w_of (cc := cL_reducesAnew) (maxL := 5) (hh := [(0, 10, 13, 29)]) (by decide) rfl (Nat.le_of_ble_eq_true rfl) ?_
  intro p e s m args below meth c A Q ls S I Z E hl
  replace hl : lv_has ls 5 [(0, .ref h), (1, .int p1), (2, .int p2), (3, .ref o)] := hl
  have htab := E.2.2.2.2
  refine lv_aload_n S.1 S.2.1 dL_reducesAnew_0 rfl (lv_at hl 3 rfl) ?_
  refine lv_iconst (v := 0) S.1 S.2.1 dL_reducesAnew_1 (by decide) ?_
  refine lv_aload_n S.1 S.2.1 dL_reducesAnew_2 rfl (lv_at hl 0 rfl) ?_
  refine lv_iload_n S.1 S.2.1 dL_reducesAnew_3 rfl (lv_at hl 1 rfl) ?_
  refine lv_iload_n S.1 S.2.1 dL_reducesAnew_4 rfl (lv_at hl 2 rfl) ?_
  refine w_cV (As := [.int p1, .int p2]) (rest := [.int 0, .ref o]) (ws' := ((wX5 cI cC cZ h a b d z q Fp Gp Fo Go Fz Gz Fq r3) ++ [(o, .inl (cL, 1, .inr (.inl f)))])) S I Z [0, 1, 2] rfl (tX5_reducesAnew l hlf sa D cI cC cZ h a b d z q Fp Gp Fo Go Fz Gz Fq Gq p1 p2 (r1, r2, r3) hf) (cwV 2 S.2.2.2.2 gL_reducesAnew_X5_reducesAnew rfl rfl rfl (by decide +kernel) ⟨Nat.le_of_ble_eq_true rfl, Nat.le_of_ble_eq_true rfl⟩) 0 4 rfl rfl rfl [0, 1, 2, 3, 4, 5, 6, 7, 8, 9, 10, 11, 12, 13, 14, 15, 16, 17, 18, 19, 20, 21, 22, 23, 24, 25, 26] [27] [1, 2, 3, 4, 5, 6, 7, 8, 9, 10, 11, 12, 13, 14, 15, 16, 17, 18, 19, 20, 21, 22, 23, 24, 25, 26, 27, 0] rfl rfl rfl rfl (by decide) rfl rfl rfl hl rfl (Nat.le_of_ble_eq_true rfl) ⟨Nat.le_refl _, Nat.le_refl _⟩ dL_reducesAnew_5 (fun h0 H locs I => ?_) (fun h0 H locs q9 ce I hce hcv hcl => ?_)
  · replace h0 : r1 = 0 := h0
    refine W.eq (g2 := F0 m 8 ls [.int r2, .int 0, .ref o]) rfl ?_
    refine lv_i2l (v := r2.toInt64) S.1 S.2.1 dL_reducesAnew_8 rfl ?_
    refine x_last (f := f) (ws' := ((wX5 cI cC cZ h a b d z q Fp Gp Fo Go Fz Gz Fq r3) ++ [(o, .inl (cL, 1, .inr (.inl (vp_updL f 0 r2.toInt64))))])) S I 27 3 rfl rfl w_in01 rfl dL_reducesAnew_9 (fun H locs I => ?_)
    refine lv_goto (tgt := 17) S.1 S.2.1 dL_reducesAnew_10 (by decide) ?_
    refine lv_iconst (v := 0) S.1 S.2.1 dL_reducesAnew_17 (by decide) ?_
    exact w_ri S E h0 I (by subst h0; rfl) dL_reducesAnew_18
  · replace h0 : ¬ r1 = 0 := h0
    replace hcl : s.vm.findClass (exX5_reducesAnew r1) = some ce.cls := hcl
    refine w_catch (nm := yIOE) S Z htab [] ⟨0, 10, 13, 29⟩ [] rfl (fun _ h => nomatch h) rfl (by decide) (by decide +kernel) (rfl) (by decide) hce hcv hcl ?_
    refine lv_astore (lv' := [(4, .ref q9), (0, .ref h), (1, .int p1), (2, .int p2), (3, .ref o)]) S.1 S.2.1 dL_reducesAnew_13 hl (by decide) rfl (fun ls hl => ?_)
    refine lv_iconst (v := 1) S.1 S.2.1 dL_reducesAnew_15 (by decide) ?_
    have e9 : r1 = 1 := hx9 h0
    exact w_ri S E e9 I (by subst e9; rfl) dL_reducesAnew_16
def rmL_forth : Room := { frames := 7, cells := 1, slots := 6, locals := 162 }
set_option maxHeartbeats 4000000 in
set_option maxRecDepth 100000 in
theorem tL_forth (l : Launch) (hlf : l.stackTraces = false) (sa : Nat → Nat) (D : va_G) (cI cC cZ cL : ClassId) (h o : Nat) (a b d z q : Nat → Nat) (Fp : xF) (Gp : xG) (Fo : xF) (Go : xG) (Fz : xF) (Gz : xG) (Fq : xF) (Gq : xG) (f : Nat → Int64) (p1 p2 p3 : Int32) (res : Int32 × Int32 × xG) (hx9 : ¬ res.1 = 0 → res.1 = 1) (hf : fX5_forth Fq Gq p1 p2 p3 = some res) : wC l yL_forth wsL_forth rmL_forth D sa [.ref h, .int p1, .int p2, .int p3, .ref o] ((wX5 cI cC cZ h a b d z q Fp Gp Fo Go Fz Gz Fq Gq) ++ [(o, .inl (cL, 1, .inr (.inl f)))]) (fun t => ((wX5 cI cC cZ h a b d z q Fp Gp Fo Go Fz Gz Fq t.2.2) ++ [(o, .inl (cL, 1, .inr (.inl (if t.1 = 0 then vp_updL f 0 t.2.1.toInt64 else f))))])) (xTL cI cC cZ cL) res := by
  obtain ⟨r1, r2, r3⟩ := res
  refine w_of (cc := cL_forth) (maxL := 6) (hh := [(0, 12, 15, 29)]) (by decide) rfl (Nat.le_of_ble_eq_true rfl) ?_
  intro p e s m args below meth c A Q ls S I Z E hl
  replace hl : lv_has ls 6 [(0, .ref h), (1, .int p1), (2, .int p2), (3, .int p3), (4, .ref o)] := hl
  have htab := E.2.2.2.2
  refine lv_aload S.1 S.2.1 dL_forth_0 (lv_at hl 4 rfl) ?_
  refine lv_iconst (v := 0) S.1 S.2.1 dL_forth_2 (by decide) ?_
  refine lv_aload_n S.1 S.2.1 dL_forth_3 rfl (lv_at hl 0 rfl) ?_
  refine lv_iload_n S.1 S.2.1 dL_forth_4 rfl (lv_at hl 1 rfl) ?_
  refine lv_iload_n S.1 S.2.1 dL_forth_5 rfl (lv_at hl 2 rfl) ?_
  refine lv_iload_n S.1 S.2.1 dL_forth_6 rfl (lv_at hl 3 rfl) ?_
  refine w_cV (As := [.int p1, .int p2, .int p3]) (rest := [.int 0, .ref o]) (ws' := ((wX5 cI cC cZ h a b d z q Fp Gp Fo Go Fz Gz Fq r3) ++ [(o, .inl (cL, 1, .inr (.inl f)))])) S I Z [0, 1, 2] rfl (tX5_forth l hlf sa D cI cC cZ h a b d z q Fp Gp Fo Go Fz Gz Fq Gq p1 p2 p3 (r1, r2, r3) hf) (cwV 3 S.2.2.2.2 gL_forth_X5_forth rfl rfl rfl (by decide +kernel) ⟨Nat.le_of_ble_eq_true rfl, Nat.le_of_ble_eq_true rfl⟩) 0 4 rfl rfl rfl [0, 1, 2, 3, 4, 5, 6, 7, 8, 9, 10, 11, 12, 13, 14, 15, 16, 17, 18, 19, 20, 21, 22, 23, 24, 25, 26] [27] [1, 2, 3, 4, 5, 6, 7, 8, 9, 10, 11, 12, 13, 14, 15, 16, 17, 18, 19, 20, 21, 22, 23, 24, 25, 26, 27, 0] rfl rfl rfl rfl (by decide) rfl rfl rfl hl rfl (Nat.le_of_ble_eq_true rfl) ⟨Nat.le_refl _, Nat.le_refl _⟩ dL_forth_7 (fun h0 H locs I => ?_) (fun h0 H locs q9 ce I hce hcv hcl => ?_)
  · replace h0 : r1 = 0 := h0
    refine W.eq (g2 := F0 m 10 ls [.int r2, .int 0, .ref o]) rfl ?_
    refine lv_i2l (v := r2.toInt64) S.1 S.2.1 dL_forth_10 rfl ?_
    refine x_last (f := f) (ws' := ((wX5 cI cC cZ h a b d z q Fp Gp Fo Go Fz Gz Fq r3) ++ [(o, .inl (cL, 1, .inr (.inl (vp_updL f 0 r2.toInt64))))])) S I 27 3 rfl rfl w_in01 rfl dL_forth_11 (fun H locs I => ?_)
    refine lv_goto (tgt := 19) S.1 S.2.1 dL_forth_12 (by decide) ?_
    refine lv_iconst (v := 0) S.1 S.2.1 dL_forth_19 (by decide) ?_
    exact w_ri S E h0 I (by subst h0; rfl) dL_forth_20
  · replace h0 : ¬ r1 = 0 := h0
    replace hcl : s.vm.findClass (exX5_forth r1) = some ce.cls := hcl
    refine w_catch (nm := yIOE) S Z htab [] ⟨0, 12, 15, 29⟩ [] rfl (fun _ h => nomatch h) rfl (by decide) (by decide +kernel) (rfl) (by decide) hce hcv hcl ?_
    refine lv_astore (lv' := [(5, .ref q9), (0, .ref h), (1, .int p1), (2, .int p2), (3, .int p3), (4, .ref o)]) S.1 S.2.1 dL_forth_15 hl (by decide) rfl (fun ls hl => ?_)
    refine lv_iconst (v := 1) S.1 S.2.1 dL_forth_17 (by decide) ?_
    have e9 : r1 = 1 := hx9 h0
    exact w_ri S E e9 I (by subst e9; rfl) dL_forth_18
def rmL_ofProblem : Room := { frames := 7, cells := 1, slots := 6, locals := 104 }
set_option maxHeartbeats 4000000 in
set_option maxRecDepth 100000 in
theorem tL_ofProblem (l : Launch) (hlf : l.stackTraces = false) (sa : Nat → Nat) (D : va_G) (cI cC cZ cL : ClassId) (h o : Nat) (a b d z q : Nat → Nat) (Fp : xF) (Gp : xG) (Fo : xF) (Go : xG) (Fz : xF) (Gz : xG) (Fq : xF) (Gq : xG) (f : Nat → Int64) (p1 p2 : Int32) (res : Int32 × Int32) (hx9 : ¬ res.1 = 0 → ¬ res.1 = 1 → res.1 = 2) (hf : fX5_ofProblem Fq Gq p1 p2 = some res) : wC l yL_ofProblem wsL_ofProblem rmL_ofProblem D sa [.ref h, .int p1, .int p2, .ref o] ((wX5 cI cC cZ h a b d z q Fp Gp Fo Go Fz Gz Fq Gq) ++ [(o, .inl (cL, 1, .inr (.inl f)))]) (fun t => ((wX5 cI cC cZ h a b d z q Fp Gp Fo Go Fz Gz Fq Gq) ++ [(o, .inl (cL, 1, .inr (.inl (if t.1 = 0 then vp_updL f 0 t.2.toInt64 else f))))])) (xTL cI cC cZ cL) res := by
  obtain ⟨r1, r2⟩ := res
  refine w_of (cc := cL_ofProblem) (maxL := 5) (hh := [(0, 10, 13, 29), (0, 10, 17, 13)]) (by decide) rfl (Nat.le_of_ble_eq_true rfl) ?_
  intro p e s m args below meth c A Q ls S I Z E hl
  replace hl : lv_has ls 5 [(0, .ref h), (1, .int p1), (2, .int p2), (3, .ref o)] := hl
  have htab := E.2.2.2.2
  refine lv_aload_n S.1 S.2.1 dL_ofProblem_0 rfl (lv_at hl 3 rfl) ?_
  refine lv_iconst (v := 0) S.1 S.2.1 dL_ofProblem_1 (by decide) ?_
  refine lv_aload_n S.1 S.2.1 dL_ofProblem_2 rfl (lv_at hl 0 rfl) ?_
  refine lv_iload_n S.1 S.2.1 dL_ofProblem_3 rfl (lv_at hl 1 rfl) ?_
  refine lv_iload_n S.1 S.2.1 dL_ofProblem_4 rfl (lv_at hl 2 rfl) ?_
  refine w_cV (As := [.int p1, .int p2]) (rest := [.int 0, .ref o]) (ws' := ((wX5 cI cC cZ h a b d z q Fp Gp Fo Go Fz Gz Fq Gq) ++ [(o, .inl (cL, 1, .inr (.inl f)))])) S I Z [0, 1, 2] rfl (tX5_ofProblem l hlf sa D cI cC cZ h a b d z q Fp Gp Fo Go Fz Gz Fq Gq p1 p2 (r1, r2) hf) (cwV 2 S.2.2.2.2 gL_ofProblem_X5_ofProblem rfl rfl rfl (by decide +kernel) ⟨Nat.le_of_ble_eq_true rfl, Nat.le_of_ble_eq_true rfl⟩) 0 4 rfl rfl rfl [0, 1, 2, 3, 4, 5, 6, 7, 8, 9, 10, 11, 12, 13, 14, 15, 16, 17, 18, 19, 20, 21, 22, 23, 24, 25, 26] [27] [1, 2, 3, 4, 5, 6, 7, 8, 9, 10, 11, 12, 13, 14, 15, 16, 17, 18, 19, 20, 21, 22, 23, 24, 25, 26, 27, 0] rfl rfl rfl rfl (by decide) rfl rfl rfl hl rfl (Nat.le_of_ble_eq_true rfl) ⟨Nat.le_refl _, Nat.le_refl _⟩ dL_ofProblem_5 (fun h0 H locs I => ?_) (fun h0 H locs q9 ce I hce hcv hcl => ?_)
  · replace h0 : r1 = 0 := h0
    refine W.eq (g2 := F0 m 8 ls [.int r2, .int 0, .ref o]) rfl ?_
    refine lv_i2l (v := r2.toInt64) S.1 S.2.1 dL_ofProblem_8 rfl ?_
    refine x_last (f := f) (ws' := ((wX5 cI cC cZ h a b d z q Fp Gp Fo Go Fz Gz Fq Gq) ++ [(o, .inl (cL, 1, .inr (.inl (vp_updL f 0 r2.toInt64))))])) S I 27 3 rfl rfl w_in01 rfl dL_ofProblem_9 (fun H locs I => ?_)
    refine lv_goto (tgt := 21) S.1 S.2.1 dL_ofProblem_10 (by decide) ?_
    refine lv_iconst (v := 0) S.1 S.2.1 dL_ofProblem_21 (by decide) ?_
    exact w_ri S E h0 I (by subst h0; rfl) dL_ofProblem_22
  · replace h0 : ¬ r1 = 0 := h0
    replace hcl : s.vm.findClass (exX5_ofProblem r1) = some ce.cls := hcl
    by_cases e1 : r1 = 1
    · refine w_catch (nm := yIOE) S Z htab [] ⟨0, 10, 13, 29⟩ [⟨0, 10, 17, 13⟩] rfl (fun _ h => nomatch h) rfl (by decide) (by decide +kernel) (by rw [e1]; rfl) (by decide) hce hcv hcl ?_
      refine lv_astore (lv' := [(4, .ref q9), (0, .ref h), (1, .int p1), (2, .int p2), (3, .ref o)]) S.1 S.2.1 dL_ofProblem_13 hl (by decide) rfl (fun ls hl => ?_)
      refine lv_iconst (v := 1) S.1 S.2.1 dL_ofProblem_15 (by decide) ?_
      exact w_ri S E e1 I (by subst e1; rfl) dL_ofProblem_16
    refine w_catch (nm := yIAE) S Z htab [⟨0, 10, 13, 29⟩] ⟨0, 10, 17, 13⟩ [] rfl (by rw [show exX5_ofProblem r1 = yIAE from by unfold exX5_ofProblem; rw [if_neg e1]]; intro z hz; simp only [List.mem_cons, List.not_mem_nil, or_false] at hz; rcases hz with rfl <;> first | exact ⟨by decide, yIOE, by decide +kernel, Z.2.1.2.1⟩) rfl (by decide) (by decide +kernel) ((by unfold exX5_ofProblem; rw [if_neg e1] : exX5_ofProblem r1 = yIAE)) (by decide) hce hcv hcl ?_
    refine lv_astore (lv' := [(4, .ref q9), (0, .ref h), (1, .int p1), (2, .int p2), (3, .ref o)]) S.1 S.2.1 dL_ofProblem_17 hl (by decide) rfl (fun ls hl => ?_)
    refine lv_iconst (v := 2) S.1 S.2.1 dL_ofProblem_19 (by decide) ?_
    have e9 : r1 = 2 := hx9 h0 e1
    exact w_ri S E e9 I (by subst e9; rfl) dL_ofProblem_20
def rmL_has : Room := { frames := 7, cells := 1, slots := 6, locals := 104 }
set_option maxHeartbeats 4000000 in
set_option maxRecDepth 100000 in
theorem tL_has (l : Launch) (hlf : l.stackTraces = false) (sa : Nat → Nat) (D : va_G) (cI cC cZ cL : ClassId) (h o : Nat) (a b d z q : Nat → Nat) (Fp : xF) (Gp : xG) (Fo : xF) (Go : xG) (Fz : xF) (Gz : xG) (Fq : xF) (Gq : xG) (f : Nat → Int64) (p1 p2 : Int32) (res : Int32 × Int32) (hx9 : ¬ res.1 = 0 → res.1 = 1) (hf : fX5_has p1 p2 = some res) : wC l yL_has wsL_has rmL_has D sa [.ref h, .int p1, .int p2, .ref o] ((wX5 cI cC cZ h a b d z q Fp Gp Fo Go Fz Gz Fq Gq) ++ [(o, .inl (cL, 1, .inr (.inl f)))]) (fun t => ((wX5 cI cC cZ h a b d z q Fp Gp Fo Go Fz Gz Fq Gq) ++ [(o, .inl (cL, 1, .inr (.inl (if t.1 = 0 then vp_updL f 0 (if t.2 = 0 then 0 else 1) else f))))])) (xTL cI cC cZ cL) res := by
  obtain ⟨r1, r2⟩ := res
  refine w_of (cc := cL_has) (maxL := 5) (hh := [(0, 17, 20, 13)]) (by decide) rfl (Nat.le_of_ble_eq_true rfl) ?_
  intro p e s m args below meth c A Q ls S I Z E hl
  replace hl : lv_has ls 5 [(0, .ref h), (1, .int p1), (2, .int p2), (3, .ref o)] := hl
  have htab := E.2.2.2.2
  refine lv_aload_n S.1 S.2.1 dL_has_0 rfl (lv_at hl 3 rfl) ?_
  refine lv_iconst (v := 0) S.1 S.2.1 dL_has_1 (by decide) ?_
  refine lv_aload_n S.1 S.2.1 dL_has_2 rfl (lv_at hl 0 rfl) ?_
  refine lv_iload_n S.1 S.2.1 dL_has_3 rfl (lv_at hl 1 rfl) ?_
  refine lv_iload_n S.1 S.2.1 dL_has_4 rfl (lv_at hl 2 rfl) ?_
  refine w_cV (As := [.int p1, .int p2]) (rest := [.int 0, .ref o]) (ws' := ((wX5 cI cC cZ h a b d z q Fp Gp Fo Go Fz Gz Fq Gq) ++ [(o, .inl (cL, 1, .inr (.inl f)))])) S I Z [0, 1, 2] rfl (tX5_has l hlf sa D cI cC cZ h a b d z q Fp Gp Fo Go Fz Gz Fq Gq p1 p2 (r1, r2) hf) (cwV 2 S.2.2.2.2 gL_has_X5_has rfl rfl rfl (by decide +kernel) ⟨Nat.le_of_ble_eq_true rfl, Nat.le_of_ble_eq_true rfl⟩) 0 4 rfl rfl rfl [0, 1, 2, 3, 4, 5, 6, 7, 8, 9, 10, 11, 12, 13, 14, 15, 16, 17, 18, 19, 20, 21, 22, 23, 24, 25, 26] [27] [1, 2, 3, 4, 5, 6, 7, 8, 9, 10, 11, 12, 13, 14, 15, 16, 17, 18, 19, 20, 21, 22, 23, 24, 25, 26, 27, 0] rfl rfl rfl rfl (by decide) rfl rfl rfl hl rfl (Nat.le_of_ble_eq_true rfl) ⟨Nat.le_refl _, Nat.le_refl _⟩ dL_has_5 (fun h0 H locs I => ?_) (fun h0 H locs q9 ce I hce hcv hcl => ?_)
  · replace h0 : r1 = 0 := h0
    refine W.eq (g2 := F0 m 8 ls [.int r2, .int 0, .ref o]) rfl ?_
    refine lv_if_eq (tgt := 15) S.1 S.2.1 dL_has_8 (by decide) (fun c1 => ?_) (fun c1 => ?_)
    · refine lv_lconst (v := 0) S.1 S.2.1 dL_has_15 rfl ?_
      refine x_last (f := f) (ws' := ((wX5 cI cC cZ h a b d z q Fp Gp Fo Go Fz Gz Fq Gq) ++ [(o, .inl (cL, 1, .inr (.inl (vp_updL f 0 0))))])) S I 27 3 rfl rfl w_in01 rfl dL_has_16 (fun H locs I => ?_)
      refine lv_goto (tgt := 24) S.1 S.2.1 dL_has_17 (by decide) ?_
      refine lv_iconst (v := 0) S.1 S.2.1 dL_has_24 (by decide) ?_
      exact w_ri S E h0 I (by subst h0; subst c1; rfl) dL_has_25
    · refine lv_lconst (v := 1) S.1 S.2.1 dL_has_11 rfl ?_
      refine lv_goto (tgt := 16) S.1 S.2.1 dL_has_12 (by decide) ?_
      refine x_last (f := f) (ws' := ((wX5 cI cC cZ h a b d z q Fp Gp Fo Go Fz Gz Fq Gq) ++ [(o, .inl (cL, 1, .inr (.inl (vp_updL f 0 1))))])) S I 27 3 rfl rfl w_in01 rfl dL_has_16 (fun H locs I => ?_)
      refine lv_goto (tgt := 24) S.1 S.2.1 dL_has_17 (by decide) ?_
      refine lv_iconst (v := 0) S.1 S.2.1 dL_has_24 (by decide) ?_
      exact w_ri S E h0 I (by subst h0; exact (congrArg (fun w => ((wX5 cI cC cZ h a b d z q Fp Gp Fo Go Fz Gz Fq Gq) ++ [(o, .inl (cL, 1, .inr (.inl (vp_updL f 0 w))))])) (show (1 : Int64) = (if r2 = 0 then 0 else 1) from (if_neg c1).symm))) dL_has_25
  · replace h0 : ¬ r1 = 0 := h0
    replace hcl : s.vm.findClass (exX5_has r1) = some ce.cls := hcl
    refine w_catch (nm := yIAE) S Z htab [] ⟨0, 17, 20, 13⟩ [] rfl (fun _ h => nomatch h) rfl (by decide) (by decide +kernel) (rfl) (by decide) hce hcv hcl ?_
    refine lv_astore (lv' := [(4, .ref q9), (0, .ref h), (1, .int p1), (2, .int p2), (3, .ref o)]) S.1 S.2.1 dL_has_20 hl (by decide) rfl (fun ls hl => ?_)
    refine lv_iconst (v := 1) S.1 S.2.1 dL_has_22 (by decide) ?_
    have e9 : r1 = 1 := hx9 h0
    exact w_ri S E e9 I (by subst e9; rfl) dL_has_23
def rmL_hasAnew : Room := { frames := 7, cells := 1, slots := 6, locals := 114 }
set_option maxHeartbeats 4000000 in
set_option maxRecDepth 100000 in
theorem tL_hasAnew (l : Launch) (hlf : l.stackTraces = false) (sa : Nat → Nat) (D : va_G) (cI cC cZ cL : ClassId) (h o : Nat) (a b d z q : Nat → Nat) (Fp : xF) (Gp : xG) (Fo : xF) (Go : xG) (Fz : xF) (Gz : xG) (Fq : xF) (Gq : xG) (f : Nat → Int64) (p1 p2 : Int32) (res : Int32 × Int32) (hx9 : ¬ res.1 = 0 → res.1 = 1) (hf : fX5_hasAnew p1 p2 = some res) : wC l yL_hasAnew wsL_hasAnew rmL_hasAnew D sa [.ref h, .int p1, .int p2, .ref o] ((wX5 cI cC cZ h a b d z q Fp Gp Fo Go Fz Gz Fq Gq) ++ [(o, .inl (cL, 1, .inr (.inl f)))]) (fun t => ((wX5 cI cC cZ h a b d z q Fp Gp Fo Go Fz Gz Fq Gq) ++ [(o, .inl (cL, 1, .inr (.inl (if t.1 = 0 then vp_updL f 0 (if t.2 = 0 then 0 else 1) else f))))])) (xTL cI cC cZ cL) res := by
  obtain ⟨r1, r2⟩ := res
  refine w_of (cc := cL_hasAnew) (maxL := 5) (hh := [(0, 17, 20, 13)]) (by decide) rfl (Nat.le_of_ble_eq_true rfl) ?_
  intro p e s m args below meth c A Q ls S I Z E hl
  replace hl : lv_has ls 5 [(0, .ref h), (1, .int p1), (2, .int p2), (3, .ref o)] := hl
  have htab := E.2.2.2.2
  refine lv_aload_n S.1 S.2.1 dL_hasAnew_0 rfl (lv_at hl 3 rfl) ?_
  refine lv_iconst (v := 0) S.1 S.2.1 dL_hasAnew_1 (by decide) ?_
  refine lv_aload_n S.1 S.2.1 dL_hasAnew_2 rfl (lv_at hl 0 rfl) ?_
  refine lv_iload_n S.1 S.2.1 dL_hasAnew_3 rfl (lv_at hl 1 rfl) ?_
  refine lv_iload_n S.1 S.2.1 dL_hasAnew_4 rfl (lv_at hl 2 rfl) ?_
  refine w_cV (As := [.int p1, .int p2]) (rest := [.int 0, .ref o]) (ws' := ((wX5 cI cC cZ h a b d z q Fp Gp Fo Go Fz Gz Fq Gq) ++ [(o, .inl (cL, 1, .inr (.inl f)))])) S I Z [0, 1, 2] rfl (tX5_hasAnew l hlf sa D cI cC cZ h a b d z q Fp Gp Fo Go Fz Gz Fq Gq p1 p2 (r1, r2) hf) (cwV 2 S.2.2.2.2 gL_hasAnew_X5_hasAnew rfl rfl rfl (by decide +kernel) ⟨Nat.le_of_ble_eq_true rfl, Nat.le_of_ble_eq_true rfl⟩) 0 4 rfl rfl rfl [0, 1, 2, 3, 4, 5, 6, 7, 8, 9, 10, 11, 12, 13, 14, 15, 16, 17, 18, 19, 20, 21, 22, 23, 24, 25, 26] [27] [1, 2, 3, 4, 5, 6, 7, 8, 9, 10, 11, 12, 13, 14, 15, 16, 17, 18, 19, 20, 21, 22, 23, 24, 25, 26, 27, 0] rfl rfl rfl rfl (by decide) rfl rfl rfl hl rfl (Nat.le_of_ble_eq_true rfl) ⟨Nat.le_refl _, Nat.le_refl _⟩ dL_hasAnew_5 (fun h0 H locs I => ?_) (fun h0 H locs q9 ce I hce hcv hcl => ?_)
  · replace h0 : r1 = 0 := h0
    refine W.eq (g2 := F0 m 8 ls [.int r2, .int 0, .ref o]) rfl ?_
    refine lv_if_eq (tgt := 15) S.1 S.2.1 dL_hasAnew_8 (by decide) (fun c1 => ?_) (fun c1 => ?_)
    · refine lv_lconst (v := 0) S.1 S.2.1 dL_hasAnew_15 rfl ?_
      refine x_last (f := f) (ws' := ((wX5 cI cC cZ h a b d z q Fp Gp Fo Go Fz Gz Fq Gq) ++ [(o, .inl (cL, 1, .inr (.inl (vp_updL f 0 0))))])) S I 27 3 rfl rfl w_in01 rfl dL_hasAnew_16 (fun H locs I => ?_)
      refine lv_goto (tgt := 24) S.1 S.2.1 dL_hasAnew_17 (by decide) ?_
      refine lv_iconst (v := 0) S.1 S.2.1 dL_hasAnew_24 (by decide) ?_
      exact w_ri S E h0 I (by subst h0; subst c1; rfl) dL_hasAnew_25
    · refine lv_lconst (v := 1) S.1 S.2.1 dL_hasAnew_11 rfl ?_
      refine lv_goto (tgt := 16) S.1 S.2.1 dL_hasAnew_12 (by decide) ?_
      refine x_last (f := f) (ws' := ((wX5 cI cC cZ h a b d z q Fp Gp Fo Go Fz Gz Fq Gq) ++ [(o, .inl (cL, 1, .inr (.inl (vp_updL f 0 1))))])) S I 27 3 rfl rfl w_in01 rfl dL_hasAnew_16 (fun H locs I => ?_)
      refine lv_goto (tgt := 24) S.1 S.2.1 dL_hasAnew_17 (by decide) ?_
      refine lv_iconst (v := 0) S.1 S.2.1 dL_hasAnew_24 (by decide) ?_
      exact w_ri S E h0 I (by subst h0; exact (congrArg (fun w => ((wX5 cI cC cZ h a b d z q Fp Gp Fo Go Fz Gz Fq Gq) ++ [(o, .inl (cL, 1, .inr (.inl (vp_updL f 0 w))))])) (show (1 : Int64) = (if r2 = 0 then 0 else 1) from (if_neg c1).symm))) dL_hasAnew_25
  · replace h0 : ¬ r1 = 0 := h0
    replace hcl : s.vm.findClass (exX5_hasAnew r1) = some ce.cls := hcl
    refine w_catch (nm := yIAE) S Z htab [] ⟨0, 17, 20, 13⟩ [] rfl (fun _ h => nomatch h) rfl (by decide) (by decide +kernel) (rfl) (by decide) hce hcv hcl ?_
    refine lv_astore (lv' := [(4, .ref q9), (0, .ref h), (1, .int p1), (2, .int p2), (3, .ref o)]) S.1 S.2.1 dL_hasAnew_20 hl (by decide) rfl (fun ls hl => ?_)
    refine lv_iconst (v := 1) S.1 S.2.1 dL_hasAnew_22 (by decide) ?_
    have e9 : r1 = 1 := hx9 h0
    exact w_ri S E e9 I (by subst e9; rfl) dL_hasAnew_23
