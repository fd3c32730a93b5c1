set_option maxHeartbeats 4000000 in
set_option maxRecDepth 100000 in
theorem tLaw_2 (l : Launch) (hlf : l.stackTraces = false) (sa : Nat → Nat) (D : va_G) (cI cC cZ cL : ClassId) (h o hm : Nat) (a b d z q am : Nat → Nat) (Fp : xF) (Gp : xG) (Fo : xF) (Go : xG) (Fz : xF) (Gz : xG) (Fq : xF) (Gq : xG) (f : Nat → Int64) (F : xF) (G : xG) {p : Program} {e : Env} {s : State} {m : MethodId} {args : Array Value} {below : List Frame} {meth : Method} {c : Code} {A : Nat → Prop} {Q : State → Prop} {H : Heap} {locs : List Loc} {cells slots : Nat} {ls : Array Slot} {b0 L : Nat} {xs : Nat → Int32} {i : Int32} (S : CallFix p m c cL_law 7 s args wsL_law RL) (Z : yZ sa A s s.heap) (hX : va_X b0 L xs s s.heap) (hbl : b0 < s.heap.size) (hbA : ¬ A b0) (I : xI D A s (wL cI cC cZ cL h a b d z q Fp Gp Fo Go Fz Gz Fq Gq o f hm am F G) (xTL cI cC cZ cL) H locs) (hl : lv_has ls 7 [(4, .int i), (3, .ref o), (2, .ref hm), (1, .ref h), (0, .ref b0)]) (hcs : cells + 1 ≤ 1108 ∧ slots + 6 ≤ 19580) {r r' : Int32}  {F' : xF} {G' : xG} (hfx : fX5_fault Fp = some r) (hfm : fX6_fault F G = some (r', F', G')) (hv : r = r') (kk : ∀ (H1 : Heap) (locs1 : List Loc) (ls1 : Array Slot) (f1 : Nat → Int64), xI D A s (wL cI cC cZ cL h a b d z q Fp Gp Fo Go Fz Gz Fq Gq o f1 hm am F' G') (xTL cI cC cZ cL) H1 locs1 → lv_has ls1 7 [(4, .int i), (3, .ref o), (2, .ref hm), (1, .ref h), (0, .ref b0)] → W p l e room_1 s m args below meth c H1 locs1 (cells + 1) (slots + 6) Q (F0 m 1545 ls1 [])) : W p l e room_1 s m args below meth c H locs cells slots Q (F0 m 223 ls []) := by
  refine lv_aload_n S.1 S.2.1 dL_law_223 rfl (lv_at hl 3 rfl) ?_
  refine l_c5 (As := []) (rest := []) (st' := [.int r]) (Fp' := Fp) (Gp' := Gp) (Fo' := Fo) (Go' := Go) (Fz' := Fz) (Gz' := Gz) (Fq' := Fq) (Gq' := Gq) S I (tX5_fault l D cI cC cZ h a b d z q Fp Gp Fo Go Fz Gz Fq Gq r hfx) rfl (cwV 0 S.2.2.2.2 gL_law_X5_fault rfl rfl rfl (by decide +kernel) ⟨Nat.le_of_ble_eq_true rfl, Nat.le_of_ble_eq_true rfl⟩) hl rfl (Nat.le_of_ble_eq_true rfl) ⟨Nat.le_trans (Nat.le_add_right _ 1) hcs.1, Nat.le_trans (Nat.le_add_right _ 6) hcs.2⟩ rfl dL_law_224 (fun H locs I => ?_)
  refine lv_aload_n S.1 S.2.1 dL_law_227 rfl (lv_at hl 2 rfl) ?_
  refine l_c6 (As := []) (rest := [.int r]) (st' := [.int r', .int r]) (F' := F') (G' := G') S I (tX6_fault l D cI cC cZ hm am F G  (r', F', G') hfm) rfl (cwV 0 S.2.2.2.2 gL_law_X6_fault rfl rfl rfl (by decide +kernel) ⟨Nat.le_of_ble_eq_true rfl, Nat.le_of_ble_eq_true rfl⟩) hl rfl (Nat.le_of_ble_eq_true rfl) ⟨Nat.le_trans (Nat.le_add_right _ 1) hcs.1, Nat.le_trans (Nat.le_add_right _ 6) hcs.2⟩ rfl dL_law_228 (fun H locs I => ?_)
  refine lv_icmp_eq (tgt := 1545) S.1 S.2.1 dL_law_231 (by decide) (fun c1 => ?_) (fun c1 => absurd hv c1)
  refine W.widen (k := cells + 1) (n := slots + 6) (Nat.le_add_right _ _) (Nat.le_add_right _ _) ?_
  exact kk _ _ _ _ I (lv_sub hl [0, 1, 2, 3, 4] rfl)
set_option maxHeartbeats 4000000 in
set_option maxRecDepth 100000 in
theorem tLaw_3 (l : Launch) (hlf : l.stackTraces = false) (sa : Nat → Nat) (D : va_G) (cI cC cZ cL : ClassId) (h o hm : Nat) (a b d z q am : Nat → Nat) (Fp : xF) (Gp : xG) (Fo : xF) (Go : xG) (Fz : xF) (Gz : xG) (Fq : xF) (Gq : xG) (f : Nat → Int64) (F : xF) (G : xG) {p : Program} {e : Env} {s : State} {m : MethodId} {args : Array Value} {below : List Frame} {meth : Method} {c : Code} {A : Nat → Prop} {Q : State → Prop} {H : Heap} {locs : List Loc} {cells slots : Nat} {ls : Array Slot} {b0 L : Nat} {xs : Nat → Int32} {i : Int32} (S : CallFix p m c cL_law 7 s args wsL_law RL) (Z : yZ sa A s s.heap) (hX : va_X b0 L xs s s.heap) (hbl : b0 < s.heap.size) (hbA : ¬ A b0) (I : xI D A s (wL cI cC cZ cL h a b d z q Fp Gp Fo Go Fz Gz Fq Gq o f hm am F G) (xTL cI cC cZ cL) H locs) (hl : lv_has ls 7 [(4, .int i), (3, .ref o), (2, .ref hm), (1, .ref h), (0, .ref b0)]) (hcs : cells + 1 ≤ 1108 ∧ slots + 6 ≤ 19580) {r r' : Int32}  {F' : xF} {G' : xG} (hfx : fX5_sigma Fp Go = some r) (hfm : fX6_sigma F G = some (r', F', G')) (hv : r = r') (kk : ∀ (H1 : Heap) (locs1 : List Loc) (ls1 : Array Slot) (f1 : Nat → Int64), xI D A s (wL cI cC cZ cL h a b d z q Fp Gp Fo Go Fz Gz Fq Gq o f1 hm am F' G') (xTL cI cC cZ cL) H1 locs1 → lv_has ls1 7 [(4, .int i), (3, .ref o), (2, .ref hm), (1, .ref h), (0, .ref b0)] → W p l e room_1 s m args below meth c H1 locs1 (cells + 1) (slots + 6) Q (F0 m 1545 ls1 [])) : W p l e room_1 s m args below meth c H locs cells slots Q (F0 m 236 ls []) := by
  refine lv_aload_n S.1 S.2.1 dL_law_236 rfl (lv_at hl 3 rfl) ?_
  refine l_c5 (As := []) (rest := []) (st' := [.int r]) (Fp' := Fp) (Gp' := Gp) (Fo' := Fo) (Go' := Go) (Fz' := Fz) (Gz' := Gz) (Fq' := Fq) (Gq' := Gq) S I (tX5_sigma l D cI cC cZ h a b d z q Fp Gp Fo Go Fz Gz Fq Gq r hfx) rfl (cwV 0 S.2.2.2.2 gL_law_X5_sigma rfl rfl rfl (by decide +kernel) ⟨Nat.le_of_ble_eq_true rfl, Nat.le_of_ble_eq_true rfl⟩) hl rfl (Nat.le_of_ble_eq_true rfl) ⟨Nat.le_trans (Nat.le_add_right _ 1) hcs.1, Nat.le_trans (Nat.le_add_right _ 6) hcs.2⟩ rfl dL_law_237 (fun H locs I => ?_)
  refine lv_aload_n S.1 S.2.1 dL_law_240 rfl (lv_at hl 2 rfl) ?_
  refine l_c6 (As := []) (rest := [.int r]) (st' := [.int r', .int r]) (F' := F') (G' := G') S I (tX6_sigma l D cI cC cZ hm am F G  (r', F', G') hfm) rfl (cwV 0 S.2.2.2.2 gL_law_X6_sigma rfl rfl rfl (by decide +kernel) ⟨Nat.le_of_ble_eq_true rfl, Nat.le_of_ble_eq_true rfl⟩) hl rfl (Nat.le_of_ble_eq_true rfl) ⟨Nat.le_trans (Nat.le_add_right _ 1) hcs.1, Nat.le_trans (Nat.le_add_right _ 6) hcs.2⟩ rfl dL_law_241 (fun H locs I => ?_)
  refine lv_icmp_eq (tgt := 1545) S.1 S.2.1 dL_law_244 (by decide) (fun c1 => ?_) (fun c1 => absurd hv c1)
  refine W.widen (k := cells + 1) (n := slots + 6) (Nat.le_add_right _ _) (Nat.le_add_right _ _) ?_
  exact kk _ _ _ _ I (lv_sub hl [0, 1, 2, 3, 4] rfl)
set_option maxHeartbeats 4000000 in
set_option maxRecDepth 100000 in
theorem tLaw_4 (l : Launch) (hlf : l.stackTraces = false) (sa : Nat → Nat) (D : va_G) (cI cC cZ cL : ClassId) (h o hm : Nat) (a b d z q am : Nat → Nat) (Fp : xF) (Gp : xG) (Fo : xF) (Go : xG) (Fz : xF) (Gz : xG) (Fq : xF) (Gq : xG) (f : Nat → Int64) (F : xF) (G : xG) {p : Program} {e : Env} {s : State} {m : MethodId} {args : Array Value} {below : List Frame} {meth : Method} {c : Code} {A : Nat → Prop} {Q : State → Prop} {H : Heap} {locs : List Loc} {cells slots : Nat} {ls : Array Slot} {b0 L : Nat} {xs : Nat → Int32} {i : Int32} (S : CallFix p m c cL_law 7 s args wsL_law RL) (Z : yZ sa A s s.heap) (hX : va_X b0 L xs s s.heap) (hbl : b0 < s.heap.size) (hbA : ¬ A b0) (I : xI D A s (wL cI cC cZ cL h a b d z q Fp Gp Fo Go Fz Gz Fq Gq o f hm am F G) (xTL cI cC cZ cL) H locs) (hl : lv_has ls 7 [(4, .int i), (3, .ref o), (2, .ref hm), (1, .ref h), (0, .ref b0)]) (hcs : cells + 1 ≤ 1108 ∧ slots + 6 ≤ 19580) {r r' : Int32}  {F' : xF} {G' : xG} (hfx : fX5_pi Fp Go = some r) (hfm : fX6_pi F G = some (r', F', G')) (hv : r = r') (kk : ∀ (H1 : Heap) (locs1 : List Loc) (ls1 : Array Slot) (f1 : Nat → Int64), xI D A s (wL cI cC cZ cL h a b d z q Fp Gp Fo Go Fz Gz Fq Gq o f1 hm am F' G') (xTL cI cC cZ cL) H1 locs1 → lv_has ls1 7 [(4, .int i), (3, .ref o), (2, .ref hm), (1, .ref h), (0, .ref b0)] → W p l e room_1 s m args below meth c H1 locs1 (cells + 1) (slots + 6) Q (F0 m 1545 ls1 [])) : W p l e room_1 s m args below meth c H locs cells slots Q (F0 m 249 ls []) := by
  refine lv_aload_n S.1 S.2.1 dL_law_249 rfl (lv_at hl 3 rfl) ?_
  refine l_c5 (As := []) (rest := []) (st' := [.int r]) (Fp' := Fp) (Gp' := Gp) (Fo' := Fo) (Go' := Go) (Fz' := Fz) (Gz' := Gz) (Fq' := Fq) (Gq' := Gq) S I (tX5_pi l D cI cC cZ h a b d z q Fp Gp Fo Go Fz Gz Fq Gq r hfx) rfl (cwV 0 S.2.2.2.2 gL_law_X5_pi rfl rfl rfl (by decide +kernel) ⟨Nat.le_of_ble_eq_true rfl, Nat.le_of_ble_eq_true rfl⟩) hl rfl (Nat.le_of_ble_eq_true rfl) ⟨Nat.le_trans (Nat.le_add_right _ 1) hcs.1, Nat.le_trans (Nat.le_add_right _ 6) hcs.2⟩ rfl dL_law_250 (fun H locs I => ?_)
  refine lv_aload_n S.1 S.2.1 dL_law_253 rfl (lv_at hl 2 rfl) ?_
  refine l_c6 (As := []) (rest := [.int r]) (st' := [.int r', .int r]) (F' := F') (G' := G') S I (tX6_pi l D cI cC cZ hm am F G  (r', F', G') hfm) rfl (cwV 0 S.2.2.2.2 gL_law_X6_pi rfl rfl rfl (by decide +kernel) ⟨Nat.le_of_ble_eq_true rfl, Nat.le_of_ble_eq_true rfl⟩) hl rfl (Nat.le_of_ble_eq_true rfl) ⟨Nat.le_trans (Nat.le_add_right _ 1) hcs.1, Nat.le_trans (Nat.le_add_right _ 6) hcs.2⟩ rfl dL_law_254 (fun H locs I => ?_)
  refine lv_icmp_eq (tgt := 1545) S.1 S.2.1 dL_law_257 (by decide) (fun c1 => ?_) (fun c1 => absurd hv c1)
  refine W.widen (k := cells + 1) (n := slots + 6) (Nat.le_add_right _ _) (Nat.le_add_right _ _) ?_
  exact kk _ _ _ _ I (lv_sub hl [0, 1, 2, 3, 4] rfl)
set_option maxHeartbeats 4000000 in
set_option maxRecDepth 100000 in
theorem tLaw_5 (l : Launch) (hlf : l.stackTraces = false) (sa : Nat → Nat) (D : va_G) (cI cC cZ cL : ClassId) (h o hm : Nat) (a b d z q am : Nat → Nat) (Fp : xF) (Gp : xG) (Fo : xF) (Go : xG) (Fz : xF) (Gz : xG) (Fq : xF) (Gq : xG) (f : Nat → Int64) (F : xF) (G : xG) {p : Program} {e : Env} {s : State} {m : MethodId} {args : Array Value} {below : List Frame} {meth : Method} {c : Code} {A : Nat → Prop} {Q : State → Prop} {H : Heap} {locs : List Loc} {cells slots : Nat} {ls : Array Slot} {b0 L : Nat} {xs : Nat → Int32} {i : Int32} (S : CallFix p m c cL_law 7 s args wsL_law RL) (Z : yZ sa A s s.heap) (hX : va_X b0 L xs s s.heap) (hbl : b0 < s.heap.size) (hbA : ¬ A b0) (I : xI D A s (wL cI cC cZ cL h a b d z q Fp Gp Fo Go Fz Gz Fq Gq o f hm am F G) (xTL cI cC cZ cL) H locs) (hl : lv_has ls 7 [(4, .int i), (3, .ref o), (2, .ref hm), (1, .ref h), (0, .ref b0)]) (hcs : cells + 1 ≤ 1108 ∧ slots + 6 ≤ 19580) {r r' : Int32}  {F' : xF} {G' : xG} (hfx : fX5_free Fp Go = some r) (hfm : fX6_free F G = some (r', F', G')) (hv : r = r') (kk : ∀ (H1 : Heap) (locs1 : List Loc) (ls1 : Array Slot) (f1 : Nat → Int64), xI D A s (wL cI cC cZ cL h a b d z q Fp Gp Fo Go Fz Gz Fq Gq o f1 hm am F' G') (xTL cI cC cZ cL) H1 locs1 → lv_has ls1 7 [(4, .int i), (3, .ref o), (2, .ref hm), (1, .ref h), (0, .ref b0)] → W p l e room_1 s m args below meth c H1 locs1 (cells + 1) (slots + 6) Q (F0 m 1545 ls1 [])) : W p l e room_1 s m args below meth c H locs cells slots Q (F0 m 262 ls []) := by
  refine lv_aload_n S.1 S.2.1 dL_law_262 rfl (lv_at hl 3 rfl) ?_
  refine l_c5 (As := []) (rest := []) (st' := [.int r]) (Fp' := Fp) (Gp' := Gp) (Fo' := Fo) (Go' := Go) (Fz' := Fz) (Gz' := Gz) (Fq' := Fq) (Gq' := Gq) S I (tX5_free l D cI cC cZ h a b d z q Fp Gp Fo Go Fz Gz Fq Gq r hfx) rfl (cwV 0 S.2.2.2.2 gL_law_X5_free rfl rfl rfl (by decide +kernel) ⟨Nat.le_of_ble_eq_true rfl, Nat.le_of_ble_eq_true rfl⟩) hl rfl (Nat.le_of_ble_eq_true rfl) ⟨Nat.le_trans (Nat.le_add_right _ 1) hcs.1, Nat.le_trans (Nat.le_add_right _ 6) hcs.2⟩ rfl dL_law_263 (fun H locs I => ?_)
  refine lv_aload_n S.1 S.2.1 dL_law_266 rfl (lv_at hl 2 rfl) ?_
  refine l_c6 (As := []) (rest := [.int r]) (st' := [.int r', .int r]) (F' := F') (G' := G') S I (tX6_free l D cI cC cZ hm am F G  (r', F', G') hfm) rfl (cwV 0 S.2.2.2.2 gL_law_X6_free rfl rfl rfl (by decide +kernel) ⟨Nat.le_of_ble_eq_true rfl, Nat.le_of_ble_eq_true rfl⟩) hl rfl (Nat.le_of_ble_eq_true rfl) ⟨Nat.le_trans (Nat.le_add_right _ 1) hcs.1, Nat.le_trans (Nat.le_add_right _ 6) hcs.2⟩ rfl dL_law_267 (fun H locs I => ?_)
  refine lv_icmp_eq (tgt := 1545) S.1 S.2.1 dL_law_270 (by decide) (fun c1 => ?_) (fun c1 => absurd hv c1)
  refine W.widen (k := cells + 1) (n := slots + 6) (Nat.le_add_right _ _) (Nat.le_add_right _ _) ?_
  exact kk _ _ _ _ I (lv_sub hl [0, 1, 2, 3, 4] rfl)
set_option maxHeartbeats 4000000 in
set_option maxRecDepth 100000 in
theorem tLaw_6 (l : Launch) (hlf : l.stackTraces = false) (sa : Nat → Nat) (D : va_G) (cI cC cZ cL : ClassId) (h o hm : Nat) (a b d z q am : Nat → Nat) (Fp : xF) (Gp : xG) (Fo : xF) (Go : xG) (Fz : xF) (Gz : xG) (Fq : xF) (Gq : xG) (f : Nat → Int64) (F : xF) (G : xG) {p : Program} {e : Env} {s : State} {m : MethodId} {args : Array Value} {below : List Frame} {meth : Method} {c : Code} {A : Nat → Prop} {Q : State → Prop} {H : Heap} {locs : List Loc} {cells slots : Nat} {ls : Array Slot} {b0 L : Nat} {xs : Nat → Int32} {i : Int32} (S : CallFix p m c cL_law 7 s args wsL_law RL) (Z : yZ sa A s s.heap) (hX : va_X b0 L xs s s.heap) (hbl : b0 < s.heap.size) (hbA : ¬ A b0) (I : xI D A s (wL cI cC cZ cL h a b d z q Fp Gp Fo Go Fz Gz Fq Gq o f hm am F G) (xTL cI cC cZ cL) H locs) (hl : lv_has ls 7 [(4, .int i), (3, .ref o), (2, .ref hm), (1, .ref h), (0, .ref b0)]) (hcs : cells + 1 ≤ 1108 ∧ slots + 6 ≤ 19580) (hi1 : vp_in (i + 1) L) (hi2 : vp_in (i + 2) L) (hi3 : vp_in (i + 3) L) (hi4 : vp_in (i + 4) L) {k r r' : Int32} {Go' : xG} {F' : xF} {G' : xG} (hx9 : ¬ k = 0 → ¬ k = 1 → k = 2) (hfx : fX5_isSo Fp Fo Go (xs (i + 1).toNatClampNeg) (xs (i + 2).toNatClampNeg) (xs (i + 3).toNatClampNeg) (xs (i + 4).toNatClampNeg) = some (k, r, Go')) (hfm : fX6_isSo F G (xs (i + 1).toNatClampNeg) (xs (i + 2).toNatClampNeg) (xs (i + 3).toNatClampNeg) (xs (i + 4).toNatClampNeg) = some (r', F', G')) (ht : fX6_thrown F' = some k) (hv : k = 0 → r = r') (kk : ∀ (H1 : Heap) (locs1 : List Loc) (ls1 : Array Slot) (f1 : Nat → Int64), xI D A s (wL cI cC cZ cL h a b d z q Fp Gp Fo Go' Fz Gz Fq Gq o f1 hm am F' G') (xTL cI cC cZ cL) H1 locs1 → lv_has ls1 7 [(4, .int i), (3, .ref o), (2, .ref hm), (1, .ref h), (0, .ref b0)] → W p l e room_1 s m args below meth c H1 locs1 (cells + 1) (slots + 6) Q (F0 m 1545 ls1 [])) : W p l e room_1 s m args below meth c H locs cells slots Q (F0 m 275 ls []) := by
  refine lv_aload_n S.1 S.2.1 dL_law_275 rfl (lv_at hl 3 rfl) ?_
  refine lv_aload_n S.1 S.2.1 dL_law_276 rfl (lv_at hl 4 rfl) ?_
  refine lv_iload S.1 S.2.1 dL_law_277 (lv_at hl 0 rfl) ?_
  refine lv_iconst (v := 1) S.1 S.2.1 dL_law_279 (by decide) ?_
  refine lv_iadd S.1 S.2.1 dL_law_280 ?_
  refine l_sld S I hX hbl hbA hi1 dL_law_281 ?_
  refine lv_aload_n S.1 S.2.1 dL_law_282 rfl (lv_at hl 4 rfl) ?_
  refine lv_iload S.1 S.2.1 dL_law_283 (lv_at hl 0 rfl) ?_
  refine lv_iconst (v := 2) S.1 S.2.1 dL_law_285 (by decide) ?_
  refine lv_iadd S.1 S.2.1 dL_law_286 ?_
  refine l_sld S I hX hbl hbA hi2 dL_law_287 ?_
  refine lv_aload_n S.1 S.2.1 dL_law_288 rfl (lv_at hl 4 rfl) ?_
  refine lv_iload S.1 S.2.1 dL_law_289 (lv_at hl 0 rfl) ?_
  refine lv_iconst (v := 3) S.1 S.2.1 dL_law_291 (by decide) ?_
  refine lv_iadd S.1 S.2.1 dL_law_292 ?_
  refine l_sld S I hX hbl hbA hi3 dL_law_293 ?_
  refine lv_aload_n S.1 S.2.1 dL_law_294 rfl (lv_at hl 4 rfl) ?_
  refine lv_iload S.1 S.2.1 dL_law_295 (lv_at hl 0 rfl) ?_
  refine lv_iconst (v := 4) S.1 S.2.1 dL_law_297 (by decide) ?_
  refine lv_iadd S.1 S.2.1 dL_law_298 ?_
  refine l_sld S I hX hbl hbA hi4 dL_law_299 ?_
  refine lv_aload_n S.1 S.2.1 dL_law_300 rfl (lv_at hl 1 rfl) ?_
  refine l_c7 (As := [.ref h, .int (xs (i + 1).toNatClampNeg), .int (xs (i + 2).toNatClampNeg), .int (xs (i + 3).toNatClampNeg), .int (xs (i + 4).toNatClampNeg), .ref o]) (rest := []) (Fp' := Fp) (Gp' := Gp) (Fo' := Fo) (Go' := Go') (Fz' := Fz) (Gz' := Gz) (Fq' := Fq) (Gq' := Gq) (f' := (if k = 0 then vp_updL f 0 (if r = 0 then 0 else 1) else f)) S I Z (tL_isSo l hlf sa D cI cC cZ cL h o a b d z q Fp Gp Fo Go Fz Gz Fq Gq f (xs (i + 1).toNatClampNeg) (xs (i + 2).toNatClampNeg) (xs (i + 3).toNatClampNeg) (xs (i + 4).toNatClampNeg) (k, r, Go') hx9 hfx) rfl (vx_cwSW 6 S.2.2.2.2 gL_law_L_isSo rfl rfl rfl (by decide +kernel) ⟨Nat.le_of_ble_eq_true rfl, Nat.le_of_ble_eq_true rfl⟩) hl rfl (Nat.le_of_ble_eq_true rfl) hcs dL_law_301 (fun H locs I => ?_)
  refine W.eq (g2 := F0 m 304 ls [.int k]) rfl ?_
  refine lv_istore (lv' := [(5, .int k), (4, .int i), (3, .ref o), (2, .ref hm), (1, .ref h), (0, .ref b0)]) S.1 S.2.1 dL_law_304 hl (by decide) rfl (fun ls hl => ?_)
  refine lv_aload_n S.1 S.2.1 dL_law_306 rfl (lv_at hl 3 rfl) ?_
  refine lv_aload_n S.1 S.2.1 dL_law_307 rfl (lv_at hl 5 rfl) ?_
  refine lv_iload S.1 S.2.1 dL_law_308 (lv_at hl 1 rfl) ?_
  refine lv_iconst (v := 1) S.1 S.2.1 dL_law_310 (by decide) ?_
  refine lv_iadd S.1 S.2.1 dL_law_311 ?_
  refine l_sld S I hX hbl hbA hi1 dL_law_312 ?_
  refine lv_aload_n S.1 S.2.1 dL_law_313 rfl (lv_at hl 5 rfl) ?_
  refine lv_iload S.1 S.2.1 dL_law_314 (lv_at hl 1 rfl) ?_
  refine lv_iconst (v := 2) S.1 S.2.1 dL_law_316 (by decide) ?_
  refine lv_iadd S.1 S.2.1 dL_law_317 ?_
  refine l_sld S I hX hbl hbA hi2 dL_law_318 ?_
  refine lv_aload_n S.1 S.2.1 dL_law_319 rfl (lv_at hl 5 rfl) ?_
  refine lv_iload S.1 S.2.1 dL_law_320 (lv_at hl 1 rfl) ?_
  refine lv_iconst (v := 3) S.1 S.2.1 dL_law_322 (by decide) ?_
  refine lv_iadd S.1 S.2.1 dL_law_323 ?_
  refine l_sld S I hX hbl hbA hi3 dL_law_324 ?_
  refine lv_aload_n S.1 S.2.1 dL_law_325 rfl (lv_at hl 5 rfl) ?_
  refine lv_iload S.1 S.2.1 dL_law_326 (lv_at hl 1 rfl) ?_
  refine lv_iconst (v := 4) S.1 S.2.1 dL_law_328 (by decide) ?_
  refine lv_iadd S.1 S.2.1 dL_law_329 ?_
  refine l_sld S I hX hbl hbA hi4 dL_law_330 ?_
  refine l_c6 (As := [.int (xs (i + 1).toNatClampNeg), .int (xs (i + 2).toNatClampNeg), .int (xs (i + 3).toNatClampNeg), .int (xs (i + 4).toNatClampNeg)]) (rest := []) (st' := [.int r']) (F' := F') (G' := G') S I (tX6_isSo l D cI cC cZ hm am F G (xs (i + 1).toNatClampNeg) (xs (i + 2).toNatClampNeg) (xs (i + 3).toNatClampNeg) (xs (i + 4).toNatClampNeg) (r', F', G') hfm) rfl (cwV 4 S.2.2.2.2 gL_law_X6_isSo rfl rfl rfl (by decide +kernel) ⟨Nat.le_of_ble_eq_true rfl, Nat.le_of_ble_eq_true rfl⟩) hl rfl (Nat.le_of_ble_eq_true rfl) hcs rfl dL_law_331 (fun H locs I => ?_)
  refine lv_istore (lv' := [(6, .int r'), (5, .int k), (4, .int i), (3, .ref o), (2, .ref hm), (1, .ref h), (0, .ref b0)]) S.1 S.2.1 dL_law_334 hl (by decide) rfl (fun ls hl => ?_)
  refine lv_aload_n S.1 S.2.1 dL_law_336 rfl (lv_at hl 4 rfl) ?_
  refine l_c6 (As := []) (rest := []) (st' := [.int k]) (F' := F') (G' := G') S I (tX6_thrown l D cI cC cZ hm am F' G' k ht) rfl (cwV 0 S.2.2.2.2 gL_law_X6_thrown rfl rfl rfl (by decide +kernel) ⟨Nat.le_of_ble_eq_true rfl, Nat.le_of_ble_eq_true rfl⟩) hl rfl (Nat.le_of_ble_eq_true rfl) hcs rfl dL_law_337 (fun H locs I => ?_)
  refine lv_iload S.1 S.2.1 dL_law_340 (lv_at hl 1 rfl) ?_
  refine lv_icmp_eq (tgt := 347) S.1 S.2.1 dL_law_342 (by decide) (fun c1 => ?_) (fun c1 => absurd rfl c1)
  refine lv_iload S.1 S.2.1 dL_law_347 (lv_at hl 1 rfl) ?_
  refine lv_if_ne (tgt := 371) S.1 S.2.1 dL_law_349 (by decide) (fun c2 => ?_) (fun c2 => ?_)
  · refine lv_goto (tgt := 1545) S.1 S.2.1 dL_law_371 (by decide) ?_
    exact kk _ _ _ _ I (lv_sub hl [2, 3, 4, 5, 6] rfl)
  refine lv_aload_n S.1 S.2.1 dL_law_352 rfl (lv_at hl 3 rfl) ?_
  refine lv_iconst (v := 0) S.1 S.2.1 dL_law_353 (by decide) ?_
  refine l_c8 S I dL_law_354 ?_
  refine lv_iload S.1 S.2.1 dL_law_355 (lv_at hl 0 rfl) ?_
  refine lv_if_eq (tgt := 364) S.1 S.2.1 dL_law_357 (by decide) (fun c4 => ?_) (fun c4 => ?_)
  · refine lv_lconst (v := 0) S.1 S.2.1 dL_law_364 rfl ?_
    refine W.lcmp S.1 S.2.1 dL_law_365 ?_
    refine lv_if_eq (tgt := 371) S.1 S.2.1 dL_law_366 (by decide) (fun c3 => ?_) (fun c3 => absurd (l_cmp0 ((l_f0 c2).trans (if_pos ((hv c2).trans c4)))) c3)
    refine lv_goto (tgt := 1545) S.1 S.2.1 dL_law_371 (by decide) ?_
    exact kk _ _ _ _ I (lv_sub hl [2, 3, 4, 5, 6] rfl)
  · refine lv_lconst (v := 1) S.1 S.2.1 dL_law_360 rfl ?_
    refine lv_goto (tgt := 365) S.1 S.2.1 dL_law_361 (by decide) ?_
    refine W.lcmp S.1 S.2.1 dL_law_365 ?_
    refine lv_if_eq (tgt := 371) S.1 S.2.1 dL_law_366 (by decide) (fun c3 => ?_) (fun c3 => absurd (l_cmp0 ((l_f0 c2).trans (if_neg (fun z => c4 ((hv c2).symm.trans z))))) c3)
    refine lv_goto (tgt := 1545) S.1 S.2.1 dL_law_371 (by decide) ?_
    exact kk _ _ _ _ I (lv_sub hl [2, 3, 4, 5, 6] rfl)
set_option maxHeartbeats 4000000 in
set_option maxRecDepth 100000 in
theorem tLaw_7 (l : Launch) (hlf : l.stackTraces = false) (sa : Nat → Nat) (D : va_G) (cI cC cZ cL : ClassId) (h o hm : Nat) (a b d z q am : Nat → Nat) (Fp : xF) (Gp : xG) (Fo : xF) (Go : xG) (Fz : xF) (Gz : xG) (Fq : xF) (Gq : xG) (f : Nat → Int64) (F : xF) (G : xG) {p : Program} {e : Env} {s : State} {m : MethodId} {args : Array Value} {below : List Frame} {meth : Method} {c : Code} {A : Nat → Prop} {Q : State → Prop} {H : Heap} {locs : List Loc} {cells slots : Nat} {ls : Array Slot} {b0 L : Nat} {xs : Nat → Int32} {i : Int32} (S : CallFix p m c cL_law 7 s args wsL_law RL) (Z : yZ sa A s s.heap) (hX : va_X b0 L xs s s.heap) (hbl : b0 < s.heap.size) (hbA : ¬ A b0) (I : xI D A s (wL cI cC cZ cL h a b d z q Fp Gp Fo Go Fz Gz Fq Gq o f hm am F G) (xTL cI cC cZ cL) H locs) (hl : lv_has ls 7 [(4, .int i), (3, .ref o), (2, .ref hm), (1, .ref h), (0, .ref b0)]) (hcs : cells + 1 ≤ 1108 ∧ slots + 6 ≤ 19580) {k r r' : Int32} {Fp' : xF} {Fo' : xF} {Fz' : xF} {Gz' : xG} {F' : xF} {G' : xG} (hx9 : ¬ k = 0 → k = 1) (hfx : fX5_principle Fp Fo Go Fz Gz = some (k, r, Fp', Fo', Fz', Gz')) (hfm : fX6_principle F G = some (r', F', G')) (ht : fX6_thrown F' = some k) (hv : k = 0 → r = r') (kk : ∀ (H1 : Heap) (locs1 : List Loc) (ls1 : Array Slot) (f1 : Nat → Int64), xI D A s (wL cI cC cZ cL h a b d z q Fp' Gp Fo' Go Fz' Gz' Fq Gq o f1 hm am F' G') (xTL cI cC cZ cL) H1 locs1 → lv_has ls1 7 [(4, .int i), (3, .ref o), (2, .ref hm), (1, .ref h), (0, .ref b0)] → W p l e room_1 s m args below meth c H1 locs1 (cells + 1) (slots + 6) Q (F0 m 1545 ls1 [])) : W p l e room_1 s m args below meth c H locs cells slots Q (F0 m 374 ls []) := by
  refine lv_aload_n S.1 S.2.1 dL_law_374 rfl (lv_at hl 3 rfl) ?_
  refine lv_aload_n S.1 S.2.1 dL_law_375 rfl (lv_at hl 1 rfl) ?_
  refine l_c7 (As := [.ref h, .ref o]) (rest := []) (Fp' := Fp') (Gp' := Gp) (Fo' := Fo') (Go' := Go) (Fz' := Fz') (Gz' := Gz') (Fq' := Fq) (Gq' := Gq) (f' := (if k = 0 then vp_updL f 0 r.toInt64 else f)) S I Z (tL_principle l hlf sa D cI cC cZ cL h o a b d z q Fp Gp Fo Go Fz Gz Fq Gq f  (k, r, Fp', Fo', Fz', Gz') hx9 hfx) rfl (vx_cwSW 2 S.2.2.2.2 gL_law_L_principle rfl rfl rfl (by decide +kernel) ⟨Nat.le_of_ble_eq_true rfl, Nat.le_of_ble_eq_true rfl⟩) hl rfl (Nat.le_of_ble_eq_true rfl) hcs dL_law_376 (fun H locs I => ?_)
  refine W.eq (g2 := F0 m 379 ls [.int k]) rfl ?_
  refine lv_istore (lv' := [(5, .int k), (4, .int i), (3, .ref o), (2, .ref hm), (1, .ref h), (0, .ref b0)]) S.1 S.2.1 dL_law_379 hl (by decide) rfl (fun ls hl => ?_)
  refine lv_aload_n S.1 S.2.1 dL_law_381 rfl (lv_at hl 3 rfl) ?_
  refine l_c6 (As := []) (rest := []) (st' := [.int r']) (F' := F') (G' := G') S I (tX6_principle l D cI cC cZ hm am F G  (r', F', G') hfm) rfl (cwV 0 S.2.2.2.2 gL_law_X6_principle rfl rfl rfl (by decide +kernel) ⟨Nat.le_of_ble_eq_true rfl, Nat.le_of_ble_eq_true rfl⟩) hl rfl (Nat.le_of_ble_eq_true rfl) hcs rfl dL_law_382 (fun H locs I => ?_)
  refine lv_istore (lv' := [(6, .int r'), (5, .int k), (4, .int i), (3, .ref o), (2, .ref hm), (1, .ref h), (0, .ref b0)]) S.1 S.2.1 dL_law_385 hl (by decide) rfl (fun ls hl => ?_)
  refine lv_aload_n S.1 S.2.1 dL_law_387 rfl (lv_at hl 4 rfl) ?_
  refine l_c6 (As := []) (rest := []) (st' := [.int k]) (F' := F') (G' := G') S I (tX6_thrown l D cI cC cZ hm am F' G' k ht) rfl (cwV 0 S.2.2.2.2 gL_law_X6_thrown rfl rfl rfl (by decide +kernel) ⟨Nat.le_of_ble_eq_true rfl, Nat.le_of_ble_eq_true rfl⟩) hl rfl (Nat.le_of_ble_eq_true rfl) hcs rfl dL_law_388 (fun H locs I => ?_)
  refine lv_iload S.1 S.2.1 dL_law_391 (lv_at hl 1 rfl) ?_
  refine lv_icmp_eq (tgt := 398) S.1 S.2.1 dL_law_393 (by decide) (fun c1 => ?_) (fun c1 => absurd rfl c1)
  refine lv_iload S.1 S.2.1 dL_law_398 (lv_at hl 1 rfl) ?_
  refine lv_if_ne (tgt := 415) S.1 S.2.1 dL_law_400 (by decide) (fun c2 => ?_) (fun c2 => ?_)
  · refine lv_goto (tgt := 1545) S.1 S.2.1 dL_law_415 (by decide) ?_
    exact kk _ _ _ _ I (lv_sub hl [2, 3, 4, 5, 6] rfl)
  refine lv_aload_n S.1 S.2.1 dL_law_403 rfl (lv_at hl 3 rfl) ?_
  refine lv_iconst (v := 0) S.1 S.2.1 dL_law_404 (by decide) ?_
  refine l_c8 S I dL_law_405 ?_
  refine lv_iload S.1 S.2.1 dL_law_406 (lv_at hl 0 rfl) ?_
  refine lv_i2l (v := r'.toInt64) S.1 S.2.1 dL_law_408 rfl ?_
  refine W.lcmp S.1 S.2.1 dL_law_409 ?_
  refine lv_if_eq (tgt := 415) S.1 S.2.1 dL_law_410 (by decide) (fun c3 => ?_) (fun c3 => absurd (l_cmp0 ((l_f0 c2).trans (by rw [hv c2]))) c3)
  refine lv_goto (tgt := 1545) S.1 S.2.1 dL_law_415 (by decide) ?_
  exact kk _ _ _ _ I (lv_sub hl [2, 3, 4, 5, 6] rfl)
