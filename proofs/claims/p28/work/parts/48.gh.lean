section GH
theorem g_top {p : Program} {l : Launch} {e : Env} {R : Room} {s : State} {m : MethodId} {args : Array Value} {below : List Frame} {meth : Method} {c : Code} {H : Heap} {locs : List Loc} {cells slots : Nat} {Q : State → Prop} {pc : Nat} {ls : Array Slot} {rest : List Value} {x y : Int32} (h : x = y) (k : W p l e R s m args below meth c H locs cells slots Q (F0 m pc ls (.int y :: rest))) : W p l e R s m args below meth c H locs cells slots Q (F0 m pc ls (.int x :: rest)) := by subst h; exact k
abbrev g_lo (x n : Int32) : Int32 := (x &&& 2147483647) - (x &&& 2147483647) / n * n
def rmL_low : Room := { frames := 0, cells := 0, slots := 0, locals := 0 }
set_option maxHeartbeats 4000000 in
set_option maxRecDepth 100000 in
theorem tL_low (l : Launch) (sa : Nat → Nat) (D : va_G) (cI cC cZ : ClassId) (v n : Int32) (hne : ¬ n = 0) : gC l yL_low wsL_low rmL_low D sa [.int v, .int n] [] (xT cI cC cZ) (g_lo v n) 0 0 0 := by
  refine g_of (cc := cL_low) (maxL := 2) (ret := some .int) (by decide) rfl (Nat.le_of_ble_eq_true rfl) ?_
  intro p e s m args below meth c A Q ls S I Z E hl
  replace hl : lv_has ls 2 [(0, .int v), (1, .int n)] := hl
  refine lv_iload_n S.1 S.2.1 dL_low_0 rfl (lv_at hl 0 rfl) ?_
  refine lv_ldc (own := RL) (index := 7) (v := 2147483647) S.1 S.2.1 S.2.2.2.1 (S.2.2.2.2 _ (by decide +kernel)) dL_low_1 ?_
  refine lv_iand S.1 S.2.1 dL_low_3 ?_
  refine lv_iload_n S.1 S.2.1 dL_low_4 rfl (lv_at hl 1 rfl) ?_
  refine lv_irem S.1 S.2.1 dL_low_5 hne ?_
  exact g_ret S E rfl rfl I (Nat.le_refl _) dL_low_6
def rmL_cell : Room := { frames := 0, cells := 0, slots := 0, locals := 0 }
set_option maxHeartbeats 4000000 in
set_option maxRecDepth 100000 in
theorem tL_cell (l : Launch) (D : va_G) (cI cC cZ : ClassId) (b L : Nat) (xs : Nat → Int32) (k : Int32) (hin : vp_in k L) (hlt : ¬ Int32.ofNat L ≤ k) : kcellC l yL_cell wsL_cell rmL_cell D b L xs [.ref b, .int k] (xT cI cC cZ) (xs k.toNatClampNeg) := by
  refine c_of (cc := cL_cell) (maxL := 2) (ret := some .int) (by decide) rfl (Nat.le_of_ble_eq_true rfl) ?_
  intro p e s m args below meth c A Q ls S I hX hb hbA E hl
  replace hl : lv_has ls 2 [(0, .ref b), (1, .int k)] := hl
  refine lv_iload_n S.1 S.2.1 dL_cell_0 rfl (lv_at hl 1 rfl) ?_
  refine lv_aload_n S.1 S.2.1 dL_cell_1 rfl (lv_at hl 0 rfl) ?_
  refine va_slen S.1 S.2.1 hX hb hbA I.2.2.2.1 dL_cell_2 ?_
  refine lv_icmp_ge (tgt := 12) S.1 S.2.1 dL_cell_3 (by decide) (fun c1 => absurd c1 hlt) (fun _ => ?_)
  refine lv_aload_n S.1 S.2.1 dL_cell_6 rfl (lv_at hl 0 rfl) ?_
  refine lv_iload_n S.1 S.2.1 dL_cell_7 rfl (lv_at hl 1 rfl) ?_
  refine va_sld S.1 S.2.1 hX hb hbA I.2.2.2.1 hin dL_cell_8 ?_
  refine lv_goto (tgt := 27) S.1 S.2.1 dL_cell_9 (by decide) ?_
  exact g_ret S E rfl rfl I (Nat.le_refl _) dL_cell_27
def rmL_principle : Room := { frames := 10, cells := 1, slots := 6, locals := 200 }
set_option maxHeartbeats 4000000 in
set_option maxRecDepth 100000 in
theorem tL_principle (l : Launch) (hlf : l.stackTraces = false) (sa : Nat → Nat) (D : va_G) (cI cC cZ : ClassId) (h : Nat) (a b d z q : Nat → Nat) : gC l yL_principle wsL_principle rmL_principle D sa [.ref h] (w5 cI cC cZ h a b d z q) (xT cI cC cZ) (-99999999) 1 1 6 := by
  refine g_ofW (cc := cL_principle) (maxL := 2) (hh := [(0, 4, 5, 17)]) (by decide) rfl (Nat.le_of_ble_eq_true rfl) ?_
  intro p e s m args below meth c A Q ls S I Z htab E hl
  replace hl : lv_has ls 2 [(0, .ref h)] := hl
  refine lv_aload_n S.1 S.2.1 dL_principle_0 rfl (lv_at hl 0 rfl) ?_
  refine g_cVx (As := []) (rest := []) (wcC := w5 cI cC cZ h a b d z q) S I Z [0, 1, 2] rfl (tX5_principle l hlf sa D cI cC cZ h a b d z q xFp0 xG0 xF0 xG0 xF0 xG0 xF0 xG0  (1, 0, xFp0, xF0, xF0, xG0) g_principle) (by decide) rfl (cwV 0 S.2.2.2.2 gL_principle_X5_principle rfl rfl rfl (by decide +kernel) ⟨Nat.le_of_ble_eq_true rfl, Nat.le_of_ble_eq_true rfl⟩) 0 4 rfl rfl rfl [0, 1, 2, 3, 4, 5, 6, 7, 8, 9, 10, 11, 12, 13, 14, 15, 16, 17, 18, 19, 20, 21, 22, 23, 24, 25, 26] [] [0, 1, 2, 3, 4, 5, 6, 7, 8, 9, 10, 11, 12, 13, 14, 15, 16, 17, 18, 19, 20, 21, 22, 23, 24, 25, 26] rfl rfl rfl rfl (by decide) rfl rfl rfl hl rfl (Nat.le_of_ble_eq_true rfl) ⟨Nat.le_refl _, Nat.le_refl _⟩ dL_principle_1 (fun H locs q9 ce I hg hce hcv hcl => ?_)
  refine w_catch (nm := yISE) S Z htab [] ⟨0, 4, 5, 17⟩ [] rfl (fun _ h => nomatch h) rfl (by decide) (by decide +kernel) (by rfl) (by decide) hce hcv hcl ?_
  refine lv_astore_n (lv' := [(1, .ref q9), (0, .ref h)]) S.1 S.2.1 dL_principle_5 rfl hl (by decide) rfl (fun ls hl => ?_)
  refine lv_ldc (own := RL) (index := 16) (v := -99999999) S.1 S.2.1 S.2.2.2.1 (S.2.2.2.2 _ (by decide +kernel)) dL_principle_6 ?_
  exact g_ret S E rfl rfl I hg dL_principle_8
def rmL_proves : Room := { frames := 10, cells := 1, slots := 6, locals := 200 }
set_option maxHeartbeats 4000000 in
set_option maxRecDepth 100000 in
theorem tL_proves (l : Launch) (hlf : l.stackTraces = false) (sa : Nat → Nat) (D : va_G) (cI cC cZ : ClassId) (h : Nat) (a b d z q : Nat → Nat) (p1 : Int32) (hx : ¬ x_ush p1 0 = 0) : gC l yL_proves wsL_proves rmL_proves D sa [.ref h, .int p1] (w5 cI cC cZ h a b d z q) (xT cI cC cZ) (-99999999) 1 1 6 := by
  refine g_ofW (cc := cL_proves) (maxL := 3) (hh := [(0, 5, 6, 14)]) (by decide) rfl (Nat.le_of_ble_eq_true rfl) ?_
  intro p e s m args below meth c A Q ls S I Z htab E hl
  replace hl : lv_has ls 3 [(0, .ref h), (1, .int p1)] := hl
  refine lv_aload_n S.1 S.2.1 dL_proves_0 rfl (lv_at hl 0 rfl) ?_
  refine lv_iload_n S.1 S.2.1 dL_proves_1 rfl (lv_at hl 1 rfl) ?_
  refine g_cVx (As := [.int p1]) (rest := []) (wcC := w5 cI cC cZ h a b d z q) S I Z [0, 1, 2] rfl (tX5_proves l hlf sa D cI cC cZ h a b d z q xFp0 xG0 xF0 xG0 xF0 xG0 xF0 xG0 p1 (1, 0) (g_proves p1 hx)) (by decide) rfl (cwV 1 S.2.2.2.2 gL_proves_X5_proves rfl rfl rfl (by decide +kernel) ⟨Nat.le_of_ble_eq_true rfl, Nat.le_of_ble_eq_true rfl⟩) 0 4 rfl rfl rfl [0, 1, 2, 3, 4, 5, 6, 7, 8, 9, 10, 11, 12, 13, 14, 15, 16, 17, 18, 19, 20, 21, 22, 23, 24, 25, 26] [] [0, 1, 2, 3, 4, 5, 6, 7, 8, 9, 10, 11, 12, 13, 14, 15, 16, 17, 18, 19, 20, 21, 22, 23, 24, 25, 26] rfl rfl rfl rfl (by decide) rfl rfl rfl hl rfl (Nat.le_of_ble_eq_true rfl) ⟨Nat.le_refl _, Nat.le_refl _⟩ dL_proves_2 (fun H locs q9 ce I hg hce hcv hcl => ?_)
  refine w_catch (nm := yIAE) S Z htab [] ⟨0, 5, 6, 14⟩ [] rfl (fun _ h => nomatch h) rfl (by decide) (by decide +kernel) (by rfl) (by decide) hce hcv hcl ?_
  refine lv_astore_n (lv' := [(2, .ref q9), (0, .ref h), (1, .int p1)]) S.1 S.2.1 dL_proves_6 rfl hl (by decide) rfl (fun ls hl => ?_)
  refine lv_ldc (own := RL) (index := 16) (v := -99999999) S.1 S.2.1 S.2.2.2.1 (S.2.2.2.2 _ (by decide +kernel)) dL_proves_7 ?_
  exact g_ret S E rfl rfl I hg dL_proves_9
def rmL_ofPrinciple : Room := { frames := 10, cells := 1, slots := 6, locals := 200 }
set_option maxHeartbeats 4000000 in
set_option maxRecDepth 100000 in
theorem tL_ofPrinciple (l : Launch) (hlf : l.stackTraces = false) (sa : Nat → Nat) (D : va_G) (cI cC cZ : ClassId) (h : Nat) (a b d z q : Nat → Nat) (p1 : Int32) (p2 : Int32) : gC l yL_ofPrinciple wsL_ofPrinciple rmL_ofPrinciple D sa [.ref h, .int p1, .int p2] (w5 cI cC cZ h a b d z q) (xT cI cC cZ) (-99999999) 1 1 6 := by
  refine g_ofW (cc := cL_ofPrinciple) (maxL := 4) (hh := [(0, 6, 7, 31), (0, 6, 11, 14)]) (by decide) rfl (Nat.le_of_ble_eq_true rfl) ?_
  intro p e s m args below meth c A Q ls S I Z htab E hl
  replace hl : lv_has ls 4 [(0, .ref h), (1, .int p1), (2, .int p2)] := hl
  refine lv_aload_n S.1 S.2.1 dL_ofPrinciple_0 rfl (lv_at hl 0 rfl) ?_
  refine lv_iload_n S.1 S.2.1 dL_ofPrinciple_1 rfl (lv_at hl 1 rfl) ?_
  refine lv_iload_n S.1 S.2.1 dL_ofPrinciple_2 rfl (lv_at hl 2 rfl) ?_
  refine g_cVx (As := [.int p1, .int p2]) (rest := []) (wcC := w5 cI cC cZ h a b d z q) S I Z [0, 1, 2] rfl (tX5_ofPrinciple l hlf sa D cI cC cZ h a b d z q xFp0 xG0 xF0 xG0 xF0 xG0 xF0 xG0 p1 p2 (1, 0) (g_ofPrinciple p1 p2)) (by decide) rfl (cwV 2 S.2.2.2.2 gL_ofPrinciple_X5_ofPrinciple rfl rfl rfl (by decide +kernel) ⟨Nat.le_of_ble_eq_true rfl, Nat.le_of_ble_eq_true rfl⟩) 0 4 rfl rfl rfl [0, 1, 2, 3, 4, 5, 6, 7, 8, 9, 10, 11, 12, 13, 14, 15, 16, 17, 18, 19, 20, 21, 22, 23, 24, 25, 26] [] [0, 1, 2, 3, 4, 5, 6, 7, 8, 9, 10, 11, 12, 13, 14, 15, 16, 17, 18, 19, 20, 21, 22, 23, 24, 25, 26] rfl rfl rfl rfl (by decide) rfl rfl rfl hl rfl (Nat.le_of_ble_eq_true rfl) ⟨Nat.le_refl _, Nat.le_refl _⟩ dL_ofPrinciple_3 (fun H locs q9 ce I hg hce hcv hcl => ?_)
  refine w_catch (nm := yIOE) S Z htab [] ⟨0, 6, 7, 31⟩ [⟨0, 6, 11, 14⟩] rfl (fun _ h => nomatch h) rfl (by decide) (by decide +kernel) (by rfl) (by decide) hce hcv hcl ?_
  refine lv_astore_n (lv' := [(3, .ref q9), (0, .ref h), (1, .int p1), (2, .int p2)]) S.1 S.2.1 dL_ofPrinciple_7 rfl hl (by decide) rfl (fun ls hl => ?_)
  refine lv_ldc (own := RL) (index := 16) (v := -99999999) S.1 S.2.1 S.2.2.2.1 (S.2.2.2.2 _ (by decide +kernel)) dL_ofPrinciple_8 ?_
  exact g_ret S E rfl rfl I hg dL_ofPrinciple_10
def rmL_ofProblem : Room := { frames := 10, cells := 1, slots := 6, locals := 200 }
set_option maxHeartbeats 4000000 in
set_option maxRecDepth 100000 in
theorem tL_ofProblem (l : Launch) (hlf : l.stackTraces = false) (sa : Nat → Nat) (D : va_G) (cI cC cZ : ClassId) (h : Nat) (a b d z q : Nat → Nat) (p1 : Int32) (p2 : Int32) : gC l yL_ofProblem wsL_ofProblem rmL_ofProblem D sa [.ref h, .int p1, .int p2] (w5 cI cC cZ h a b d z q) (xT cI cC cZ) (-99999999) 1 1 6 := by
  refine g_ofW (cc := cL_ofProblem) (maxL := 4) (hh := [(0, 6, 7, 31), (0, 6, 11, 14)]) (by decide) rfl (Nat.le_of_ble_eq_true rfl) ?_
  intro p e s m args below meth c A Q ls S I Z htab E hl
  replace hl : lv_has ls 4 [(0, .ref h), (1, .int p1), (2, .int p2)] := hl
  refine lv_aload_n S.1 S.2.1 dL_ofProblem_0 rfl (lv_at hl 0 rfl) ?_
  refine lv_iload_n S.1 S.2.1 dL_ofProblem_1 rfl (lv_at hl 1 rfl) ?_
  refine lv_iload_n S.1 S.2.1 dL_ofProblem_2 rfl (lv_at hl 2 rfl) ?_
  refine g_cVx (As := [.int p1, .int p2]) (rest := []) (wcC := w5 cI cC cZ h a b d z q) S I Z [0, 1, 2] rfl (tX5_ofProblem l hlf sa D cI cC cZ h a b d z q xFp0 xG0 xF0 xG0 xF0 xG0 xF0 xG0 p1 p2 (1, 0) (g_ofProblem p1 p2)) (by decide) rfl (cwV 2 S.2.2.2.2 gL_ofProblem_X5_ofProblem rfl rfl rfl (by decide +kernel) ⟨Nat.le_of_ble_eq_true rfl, Nat.le_of_ble_eq_true rfl⟩) 0 4 rfl rfl rfl [0, 1, 2, 3, 4, 5, 6, 7, 8, 9, 10, 11, 12, 13, 14, 15, 16, 17, 18, 19, 20, 21, 22, 23, 24, 25, 26] [] [0, 1, 2, 3, 4, 5, 6, 7, 8, 9, 10, 11, 12, 13, 14, 15, 16, 17, 18, 19, 20, 21, 22, 23, 24, 25, 26] rfl rfl rfl rfl (by decide) rfl rfl rfl hl rfl (Nat.le_of_ble_eq_true rfl) ⟨Nat.le_refl _, Nat.le_refl _⟩ dL_ofProblem_3 (fun H locs q9 ce I hg hce hcv hcl => ?_)
  refine w_catch (nm := yIOE) S Z htab [] ⟨0, 6, 7, 31⟩ [⟨0, 6, 11, 14⟩] rfl (fun _ h => nomatch h) rfl (by decide) (by decide +kernel) (by rfl) (by decide) hce hcv hcl ?_
  refine lv_astore_n (lv' := [(3, .ref q9), (0, .ref h), (1, .int p1), (2, .int p2)]) S.1 S.2.1 dL_ofProblem_7 rfl hl (by decide) rfl (fun ls hl => ?_)
  refine lv_ldc (own := RL) (index := 16) (v := -99999999) S.1 S.2.1 S.2.2.2.1 (S.2.2.2.2 _ (by decide +kernel)) dL_ofProblem_8 ?_
  exact g_ret S E rfl rfl I hg dL_ofProblem_10
def rmL_reduces : Room := { frames := 10, cells := 1, slots := 6, locals := 200 }
set_option maxHeartbeats 4000000 in
set_option maxRecDepth 100000 in
theorem tL_reduces (l : Launch) (hlf : l.stackTraces = false) (sa : Nat → Nat) (D : va_G) (cI cC cZ : ClassId) (h : Nat) (a b d z q : Nat → Nat) (p1 : Int32) (p2 : Int32) : gC l yL_reduces wsL_reduces rmL_reduces D sa [.ref h, .int p1, .int p2] (w5 cI cC cZ h a b d z q) (xT cI cC cZ) (-99999999) 1 1 6 := by
  refine g_ofW (cc := cL_reduces) (maxL := 4) (hh := [(0, 6, 7, 31)]) (by decide) rfl (Nat.le_of_ble_eq_true rfl) ?_
  intro p e s m args below meth c A Q ls S I Z htab E hl
  replace hl : lv_has ls 4 [(0, .ref h), (1, .int p1), (2, .int p2)] := hl
  refine lv_aload_n S.1 S.2.1 dL_reduces_0 rfl (lv_at hl 0 rfl) ?_
  refine lv_iload_n S.1 S.2.1 dL_reduces_1 rfl (lv_at hl 1 rfl) ?_
  refine lv_iload_n S.1 S.2.1 dL_reduces_2 rfl (lv_at hl 2 rfl) ?_
  refine g_cVx (As := [.int p1, .int p2]) (rest := []) (wcC := w5 cI cC cZ h a b d z q) S I Z [0, 1, 2] rfl (tX5_reduces l hlf sa D cI cC cZ h a b d z q xFp0 xG0 xF0 xG0 xF0 xG0 xF0 xG0 p1 p2 (1, 0, xG0) (g_reduces p1 p2)) (by decide) rfl (cwV 2 S.2.2.2.2 gL_reduces_X5_reduces rfl rfl rfl (by decide +kernel) ⟨Nat.le_of_ble_eq_true rfl, Nat.le_of_ble_eq_true rfl⟩) 0 4 rfl rfl rfl [0, 1, 2, 3, 4, 5, 6, 7, 8, 9, 10, 11, 12, 13, 14, 15, 16, 17, 18, 19, 20, 21, 22, 23, 24, 25, 26] [] [0, 1, 2, 3, 4, 5, 6, 7, 8, 9, 10, 11, 12, 13, 14, 15, 16, 17, 18, 19, 20, 21, 22, 23, 24, 25, 26] rfl rfl rfl rfl (by decide) rfl rfl rfl hl rfl (Nat.le_of_ble_eq_true rfl) ⟨Nat.le_refl _, Nat.le_refl _⟩ dL_reduces_3 (fun H locs q9 ce I hg hce hcv hcl => ?_)
  refine w_catch (nm := yIOE) S Z htab [] ⟨0, 6, 7, 31⟩ [] rfl (fun _ h => nomatch h) rfl (by decide) (by decide +kernel) (by rfl) (by decide) hce hcv hcl ?_
  refine lv_astore_n (lv' := [(3, .ref q9), (0, .ref h), (1, .int p1), (2, .int p2)]) S.1 S.2.1 dL_reduces_7 rfl hl (by decide) rfl (fun ls hl => ?_)
  refine lv_ldc (own := RL) (index := 16) (v := -99999999) S.1 S.2.1 S.2.2.2.1 (S.2.2.2.2 _ (by decide +kernel)) dL_reduces_8 ?_
  exact g_ret S E rfl rfl I hg dL_reduces_10
end GH
