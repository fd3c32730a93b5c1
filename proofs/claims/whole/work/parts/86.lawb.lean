set_option maxHeartbeats 4000000 in
set_option maxRecDepth 100000 in
theorem tLaw_8 (l : Launch) (hlf : l.stackTraces = false) (sa : Nat → Nat) (D : va_G) (cI cC cZ cL : ClassId) (h o hm : Nat) (a b d z q am : Nat → Nat) (Fp : xF) (Gp : xG) (Fo : xF) (Go : xG) (Fz : xF) (Gz : xG) (Fq : xF) (Gq : xG) (f : Nat → Int64) (F : xF) (G : xG) {p : Program} {e : Env} {s : State} {m : MethodId} {args : Array Value} {below : List Frame} {meth : Method} {c : Code} {A : Nat → Prop} {Q : State → Prop} {H : Heap} {locs : List Loc} {cells slots : Nat} {ls : Array Slot} {b0 L : Nat} {xs : Nat → Int32} {i : Int32} (S : CallFix p m c cL_law 7 s args wsL_law RL) (Z : yZ sa A s s.heap) (hX : va_X b0 L xs s s.heap) (hbl : b0 < s.heap.size) (hbA : ¬ A b0) (I : xI D A s (wL cI cC cZ cL h a b d z q Fp Gp Fo Go Fz Gz Fq Gq o f hm am F G) (xTL cI cC cZ cL) H locs) (hl : lv_has ls 7 [(4, .int i), (3, .ref o), (2, .ref hm), (1, .ref h), (0, .ref b0)]) (hcs : cells + 1 ≤ 1108 ∧ slots + 6 ≤ 19580) (hi1 : vp_in (i + 1) L) (hi2 : vp_in (i + 2) L) {k r r' : Int32} {Fz' : xF} {Gz' : xG} {F' : xF} {G' : xG} (hx9 : ¬ k = 0 → ¬ k = 1 → ¬ k = 2 → k = 3) (hfx : fX5_rule Fz Gz (xs (i + 1).toNatClampNeg) (xs (i + 2).toNatClampNeg) = some (k, r, Fz', Gz')) (hfm : fX6_rule F G (xs (i + 1).toNatClampNeg) (xs (i + 2).toNatClampNeg) = some (r', F', G')) (ht : fX6_thrown F' = some k) (hv : k = 0 → r = r') (kk : ∀ (H1 : Heap) (locs1 : List Loc) (ls1 : Array Slot) (f1 : Nat → Int64), xI D A s (wL cI cC cZ cL h a b d z q Fp Gp Fo Go Fz' Gz' Fq Gq o f1 hm am F' G') (xTL cI cC cZ cL) H1 locs1 → lv_has ls1 7 [(4, .int i), (3, .ref o), (2, .ref hm), (1, .ref h), (0, .ref b0)] → W p l e room_1 s m args below meth c H1 locs1 (cells + 1) (slots + 6) Q (F0 m 1545 ls1 [])) : W p l e room_1 s m args below meth c H locs cells slots Q (F0 m 418 ls []) := by
  refine lv_aload_n S.1 S.2.1 dL_law_418 rfl (lv_at hl 3 rfl) ?_
  refine lv_aload_n S.1 S.2.1 dL_law_419 rfl (lv_at hl 4 rfl) ?_
  refine lv_iload S.1 S.2.1 dL_law_420 (lv_at hl 0 rfl) ?_
  refine lv_iconst (v := 1) S.1 S.2.1 dL_law_422 (by decide) ?_
  refine lv_iadd S.1 S.2.1 dL_law_423 ?_
  refine l_sld S I hX hbl hbA hi1 dL_law_424 ?_
  refine lv_aload_n S.1 S.2.1 dL_law_425 rfl (lv_at hl 4 rfl) ?_
  refine lv_iload S.1 S.2.1 dL_law_426 (lv_at hl 0 rfl) ?_
  refine lv_iconst (v := 2) S.1 S.2.1 dL_law_428 (by decide) ?_
  refine lv_iadd S.1 S.2.1 dL_law_429 ?_
  refine l_sld S I hX hbl hbA hi2 dL_law_430 ?_
  refine lv_aload_n S.1 S.2.1 dL_law_431 rfl (lv_at hl 1 rfl) ?_
  refine l_c7 (As := [.ref h, .int (xs (i + 1).toNatClampNeg), .int (xs (i + 2).toNatClampNeg), .ref o]) (rest := []) (Fp' := Fp) (Gp' := Gp) (Fo' := Fo) (Go' := Go) (Fz' := Fz') (Gz' := Gz') (Fq' := Fq) (Gq' := Gq) (f' := (if k = 0 then vp_updL f 0 r.toInt64 else f)) S I Z (tL_rule l hlf sa D cI cC cZ cL h o a b d z q Fp Gp Fo Go Fz Gz Fq Gq f (xs (i + 1).toNatClampNeg) (xs (i + 2).toNatClampNeg) (k, r, Fz', Gz') hx9 hfx) rfl (vx_cwSW 4 S.2.2.2.2 gL_law_L_rule rfl rfl rfl (by decide +kernel) ⟨Nat.le_of_ble_eq_true rfl, Nat.le_of_ble_eq_true rfl⟩) hl rfl (Nat.le_of_ble_eq_true rfl) hcs dL_law_432 (fun H locs I => ?_)
  refine W.eq (g2 := F0 m 435 ls [.int k]) rfl ?_
  refine lv_istore (lv' := [(5, .int k), (4, .int i), (3, .ref o), (2, .ref hm), (1, .ref h), (0, .ref b0)]) S.1 S.2.1 dL_law_435 hl (by decide) rfl (fun ls hl => ?_)
  refine lv_aload_n S.1 S.2.1 dL_law_437 rfl (lv_at hl 3 rfl) ?_
  refine lv_aload_n S.1 S.2.1 dL_law_438 rfl (lv_at hl 5 rfl) ?_
  refine lv_iload S.1 S.2.1 dL_law_439 (lv_at hl 1 rfl) ?_
  refine lv_iconst (v := 1) S.1 S.2.1 dL_law_441 (by decide) ?_
  refine lv_iadd S.1 S.2.1 dL_law_442 ?_
  refine l_sld S I hX hbl hbA hi1 dL_law_443 ?_
  refine lv_aload_n S.1 S.2.1 dL_law_444 rfl (lv_at hl 5 rfl) ?_
  refine lv_iload S.1 S.2.1 dL_law_445 (lv_at hl 1 rfl) ?_
  refine lv_iconst (v := 2) S.1 S.2.1 dL_law_447 (by decide) ?_
  refine lv_iadd S.1 S.2.1 dL_law_448 ?_
  refine l_sld S I hX hbl hbA hi2 dL_law_449 ?_
  refine l_c6 (As := [.int (xs (i + 1).toNatClampNeg), .int (xs (i + 2).toNatClampNeg)]) (rest := []) (st' := [.int r']) (F' := F') (G' := G') S I (tX6_rule l D cI cC cZ hm am F G (xs (i + 1).toNatClampNeg) (xs (i + 2).toNatClampNeg) (r', F', G') hfm) rfl (cwV 2 S.2.2.2.2 gL_law_X6_rule rfl rfl rfl (by decide +kernel) ⟨Nat.le_of_ble_eq_true rfl, Nat.le_of_ble_eq_true rfl⟩) hl rfl (Nat.le_of_ble_eq_true rfl) hcs rfl dL_law_450 (fun H locs I => ?_)
  refine lv_istore (lv' := [(6, .int r'), (5, .int k), (4, .int i), (3, .ref o), (2, .ref hm), (1, .ref h), (0, .ref b0)]) S.1 S.2.1 dL_law_453 hl (by decide) rfl (fun ls hl => ?_)
  refine lv_aload_n S.1 S.2.1 dL_law_455 rfl (lv_at hl 4 rfl) ?_
  refine l_c6 (As := []) (rest := []) (st' := [.int k]) (F' := F') (G' := G') S I (tX6_thrown l D cI cC cZ hm am F' G' k ht) rfl (cwV 0 S.2.2.2.2 gL_law_X6_thrown rfl rfl rfl (by decide +kernel) ⟨Nat.le_of_ble_eq_true rfl, Nat.le_of_ble_eq_true rfl⟩) hl rfl (Nat.le_of_ble_eq_true rfl) hcs rfl dL_law_456 (fun H locs I => ?_)
  refine lv_iload S.1 S.2.1 dL_law_459 (lv_at hl 1 rfl) ?_
  refine lv_icmp_eq (tgt := 466) S.1 S.2.1 dL_law_461 (by decide) (fun c1 => ?_) (fun c1 => absurd rfl c1)
  refine lv_iload S.1 S.2.1 dL_law_466 (lv_at hl 1 rfl) ?_
  refine lv_if_ne (tgt := 483) S.1 S.2.1 dL_law_468 (by decide) (fun c2 => ?_) (fun c2 => ?_)
  · refine lv_goto (tgt := 1545) S.1 S.2.1 dL_law_483 (by decide) ?_
    exact kk _ _ _ _ I (lv_sub hl [2, 3, 4, 5, 6] rfl)
  refine lv_aload_n S.1 S.2.1 dL_law_471 rfl (lv_at hl 3 rfl) ?_
  refine lv_iconst (v := 0) S.1 S.2.1 dL_law_472 (by decide) ?_
  refine l_c8 S I dL_law_473 ?_
  refine lv_iload S.1 S.2.1 dL_law_474 (lv_at hl 0 rfl) ?_
  refine lv_i2l (v := r'.toInt64) S.1 S.2.1 dL_law_476 rfl ?_
  refine W.lcmp S.1 S.2.1 dL_law_477 ?_
  refine lv_if_eq (tgt := 483) S.1 S.2.1 dL_law_478 (by decide) (fun c3 => ?_) (fun c3 => absurd (l_cmp0 ((l_f0 c2).trans (by rw [hv c2]))) c3)
  refine lv_goto (tgt := 1545) S.1 S.2.1 dL_law_483 (by decide) ?_
  exact kk _ _ _ _ I (lv_sub hl [2, 3, 4, 5, 6] rfl)
set_option maxHeartbeats 4000000 in
set_option maxRecDepth 100000 in
theorem tLaw_9 (l : Launch) (hlf : l.stackTraces = false) (sa : Nat → Nat) (D : va_G) (cI cC cZ cL : ClassId) (h o hm : Nat) (a b d z q am : Nat → Nat) (Fp : xF) (Gp : xG) (Fo : xF) (Go : xG) (Fz : xF) (Gz : xG) (Fq : xF) (Gq : xG) (f : Nat → Int64) (F : xF) (G : xG) {p : Program} {e : Env} {s : State} {m : MethodId} {args : Array Value} {below : List Frame} {meth : Method} {c : Code} {A : Nat → Prop} {Q : State → Prop} {H : Heap} {locs : List Loc} {cells slots : Nat} {ls : Array Slot} {b0 L : Nat} {xs : Nat → Int32} {i : Int32} (S : CallFix p m c cL_law 7 s args wsL_law RL) (Z : yZ sa A s s.heap) (hX : va_X b0 L xs s s.heap) (hbl : b0 < s.heap.size) (hbA : ¬ A b0) (I : xI D A s (wL cI cC cZ cL h a b d z q Fp Gp Fo Go Fz Gz Fq Gq o f hm am F G) (xTL cI cC cZ cL) H locs) (hl : lv_has ls 7 [(4, .int i), (3, .ref o), (2, .ref hm), (1, .ref h), (0, .ref b0)]) (hcs : cells + 1 ≤ 1108 ∧ slots + 6 ≤ 19580) (hi1 : vp_in (i + 1) L) {k r r' : Int32} {Fz' : xF} {Gz' : xG} {F' : xF} {G' : xG} (hx9 : ¬ k = 0 → ¬ k = 1 → k = 2) (hfx : fX5_model Fz Gz (xs (i + 1).toNatClampNeg) = some (k, r, Fz', Gz')) (hfm : fX6_model F G (xs (i + 1).toNatClampNeg) = some (r', F', G')) (ht : fX6_thrown F' = some k) (hv : k = 0 → r = r') (kk : ∀ (H1 : Heap) (locs1 : List Loc) (ls1 : Array Slot) (f1 : Nat → Int64), xI D A s (wL cI cC cZ cL h a b d z q Fp Gp Fo Go Fz' Gz' Fq Gq o f1 hm am F' G') (xTL cI cC cZ cL) H1 locs1 → lv_has ls1 7 [(4, .int i), (3, .ref o), (2, .ref hm), (1, .ref h), (0, .ref b0)] → W p l e room_1 s m args below meth c H1 locs1 (cells + 1) (slots + 6) Q (F0 m 1545 ls1 [])) : W p l e room_1 s m args below meth c H locs cells slots Q (F0 m 486 ls []) := by
  refine lv_aload_n S.1 S.2.1 dL_law_486 rfl (lv_at hl 3 rfl) ?_
  refine lv_aload_n S.1 S.2.1 dL_law_487 rfl (lv_at hl 4 rfl) ?_
  refine lv_iload S.1 S.2.1 dL_law_488 (lv_at hl 0 rfl) ?_
  refine lv_iconst (v := 1) S.1 S.2.1 dL_law_490 (by decide) ?_
  refine lv_iadd S.1 S.2.1 dL_law_491 ?_
  refine l_sld S I hX hbl hbA hi1 dL_law_492 ?_
  refine lv_aload_n S.1 S.2.1 dL_law_493 rfl (lv_at hl 1 rfl) ?_
  refine l_c7 (As := [.ref h, .int (xs (i + 1).toNatClampNeg), .ref o]) (rest := []) (Fp' := Fp) (Gp' := Gp) (Fo' := Fo) (Go' := Go) (Fz' := Fz') (Gz' := Gz') (Fq' := Fq) (Gq' := Gq) (f' := (if k = 0 then vp_updL f 0 r.toInt64 else f)) S I Z (tL_model l hlf sa D cI cC cZ cL h o a b d z q Fp Gp Fo Go Fz Gz Fq Gq f (xs (i + 1).toNatClampNeg) (k, r, Fz', Gz') hx9 hfx) rfl (vx_cwSW 3 S.2.2.2.2 gL_law_L_model rfl rfl rfl (by decide +kernel) ⟨Nat.le_of_ble_eq_true rfl, Nat.le_of_ble_eq_true rfl⟩) hl rfl (Nat.le_of_ble_eq_true rfl) hcs dL_law_494 (fun H locs I => ?_)
  refine W.eq (g2 := F0 m 497 ls [.int k]) rfl ?_
  refine lv_istore (lv' := [(5, .int k), (4, .int i), (3, .ref o), (2, .ref hm), (1, .ref h), (0, .ref b0)]) S.1 S.2.1 dL_law_497 hl (by decide) rfl (fun ls hl => ?_)
  refine lv_aload_n S.1 S.2.1 dL_law_499 rfl (lv_at hl 3 rfl) ?_
  refine lv_aload_n S.1 S.2.1 dL_law_500 rfl (lv_at hl 5 rfl) ?_
  refine lv_iload S.1 S.2.1 dL_law_501 (lv_at hl 1 rfl) ?_
  refine lv_iconst (v := 1) S.1 S.2.1 dL_law_503 (by decide) ?_
  refine lv_iadd S.1 S.2.1 dL_law_504 ?_
  refine l_sld S I hX hbl hbA hi1 dL_law_505 ?_
  refine l_c6 (As := [.int (xs (i + 1).toNatClampNeg)]) (rest := []) (st' := [.int r']) (F' := F') (G' := G') S I (tX6_model l D cI cC cZ hm am F G (xs (i + 1).toNatClampNeg) (r', F', G') hfm) rfl (cwV 1 S.2.2.2.2 gL_law_X6_model rfl rfl rfl (by decide +kernel) ⟨Nat.le_of_ble_eq_true rfl, Nat.le_of_ble_eq_true rfl⟩) hl rfl (Nat.le_of_ble_eq_true rfl) hcs rfl dL_law_506 (fun H locs I => ?_)
  refine lv_istore (lv' := [(6, .int r'), (5, .int k), (4, .int i), (3, .ref o), (2, .ref hm), (1, .ref h), (0, .ref b0)]) S.1 S.2.1 dL_law_509 hl (by decide) rfl (fun ls hl => ?_)
  refine lv_aload_n S.1 S.2.1 dL_law_511 rfl (lv_at hl 4 rfl) ?_
  refine l_c6 (As := []) (rest := []) (st' := [.int k]) (F' := F') (G' := G') S I (tX6_thrown l D cI cC cZ hm am F' G' k ht) rfl (cwV 0 S.2.2.2.2 gL_law_X6_thrown rfl rfl rfl (by decide +kernel) ⟨Nat.le_of_ble_eq_true rfl, Nat.le_of_ble_eq_true rfl⟩) hl rfl (Nat.le_of_ble_eq_true rfl) hcs rfl dL_law_512 (fun H locs I => ?_)
  refine lv_iload S.1 S.2.1 dL_law_515 (lv_at hl 1 rfl) ?_
  refine lv_icmp_eq (tgt := 522) S.1 S.2.1 dL_law_517 (by decide) (fun c1 => ?_) (fun c1 => absurd rfl c1)
  refine lv_iload S.1 S.2.1 dL_law_522 (lv_at hl 1 rfl) ?_
  refine lv_if_ne (tgt := 539) S.1 S.2.1 dL_law_524 (by decide) (fun c2 => ?_) (fun c2 => ?_)
  · refine lv_goto (tgt := 1545) S.1 S.2.1 dL_law_539 (by decide) ?_
    exact kk _ _ _ _ I (lv_sub hl [2, 3, 4, 5, 6] rfl)
  refine lv_aload_n S.1 S.2.1 dL_law_527 rfl (lv_at hl 3 rfl) ?_
  refine lv_iconst (v := 0) S.1 S.2.1 dL_law_528 (by decide) ?_
  refine l_c8 S I dL_law_529 ?_
  refine lv_iload S.1 S.2.1 dL_law_530 (lv_at hl 0 rfl) ?_
  refine lv_i2l (v := r'.toInt64) S.1 S.2.1 dL_law_532 rfl ?_
  refine W.lcmp S.1 S.2.1 dL_law_533 ?_
  refine lv_if_eq (tgt := 539) S.1 S.2.1 dL_law_534 (by decide) (fun c3 => ?_) (fun c3 => absurd (l_cmp0 ((l_f0 c2).trans (by rw [hv c2]))) c3)
  refine lv_goto (tgt := 1545) S.1 S.2.1 dL_law_539 (by decide) ?_
  exact kk _ _ _ _ I (lv_sub hl [2, 3, 4, 5, 6] rfl)
set_option maxHeartbeats 4000000 in
set_option maxRecDepth 100000 in
theorem tLaw_10 (l : Launch) (hlf : l.stackTraces = false) (sa : Nat → Nat) (D : va_G) (cI cC cZ cL : ClassId) (h o hm : Nat) (a b d z q am : Nat → Nat) (Fp : xF) (Gp : xG) (Fo : xF) (Go : xG) (Fz : xF) (Gz : xG) (Fq : xF) (Gq : xG) (f : Nat → Int64) (F : xF) (G : xG) {p : Program} {e : Env} {s : State} {m : MethodId} {args : Array Value} {below : List Frame} {meth : Method} {c : Code} {A : Nat → Prop} {Q : State → Prop} {H : Heap} {locs : List Loc} {cells slots : Nat} {ls : Array Slot} {b0 L : Nat} {xs : Nat → Int32} {i : Int32} (S : CallFix p m c cL_law 7 s args wsL_law RL) (Z : yZ sa A s s.heap) (hX : va_X b0 L xs s s.heap) (hbl : b0 < s.heap.size) (hbA : ¬ A b0) (I : xI D A s (wL cI cC cZ cL h a b d z q Fp Gp Fo Go Fz Gz Fq Gq o f hm am F G) (xTL cI cC cZ cL) H locs) (hl : lv_has ls 7 [(4, .int i), (3, .ref o), (2, .ref hm), (1, .ref h), (0, .ref b0)]) (hcs : cells + 1 ≤ 1108 ∧ slots + 6 ≤ 19580) (hi1 : vp_in (i + 1) L) {k r r' : Int32}  {F' : xF} (hx9 : ¬ k = 0 → k = 1) (hfx : fX5_proves Fz Gz (xs (i + 1).toNatClampNeg) = some (k, r)) (hfm : fX6_proves F G (xs (i + 1).toNatClampNeg) = some (r', F')) (ht : fX6_thrown F' = some k) (hv : k = 0 → r = r') (kk : ∀ (H1 : Heap) (locs1 : List Loc) (ls1 : Array Slot) (f1 : Nat → Int64), xI D A s (wL cI cC cZ cL h a b d z q Fp Gp Fo Go Fz Gz Fq Gq o f1 hm am F' G) (xTL cI cC cZ cL) H1 locs1 → lv_has ls1 7 [(4, .int i), (3, .ref o), (2, .ref hm), (1, .ref h), (0, .ref b0)] → W p l e room_1 s m args below meth c H1 locs1 (cells + 1) (slots + 6) Q (F0 m 1545 ls1 [])) : W p l e room_1 s m args below meth c H locs cells slots Q (F0 m 542 ls []) := by
  refine lv_aload_n S.1 S.2.1 dL_law_542 rfl (lv_at hl 3 rfl) ?_
  refine lv_aload_n S.1 S.2.1 dL_law_543 rfl (lv_at hl 4 rfl) ?_
  refine lv_iload S.1 S.2.1 dL_law_544 (lv_at hl 0 rfl) ?_
  refine lv_iconst (v := 1) S.1 S.2.1 dL_law_546 (by decide) ?_
  refine lv_iadd S.1 S.2.1 dL_law_547 ?_
  refine l_sld S I hX hbl hbA hi1 dL_law_548 ?_
  refine lv_aload_n S.1 S.2.1 dL_law_549 rfl (lv_at hl 1 rfl) ?_
  refine l_c7 (As := [.ref h, .int (xs (i + 1).toNatClampNeg), .ref o]) (rest := []) (Fp' := Fp) (Gp' := Gp) (Fo' := Fo) (Go' := Go) (Fz' := Fz) (Gz' := Gz) (Fq' := Fq) (Gq' := Gq) (f' := (if k = 0 then vp_updL f 0 r.toInt64 else f)) S I Z (tL_proves l hlf sa D cI cC cZ cL h o a b d z q Fp Gp Fo Go Fz Gz Fq Gq f (xs (i + 1).toNatClampNeg) (k, r) hx9 hfx) rfl (vx_cwSW 3 S.2.2.2.2 gL_law_L_proves rfl rfl rfl (by decide +kernel) ⟨Nat.le_of_ble_eq_true rfl, Nat.le_of_ble_eq_true rfl⟩) hl rfl (Nat.le_of_ble_eq_true rfl) hcs dL_law_550 (fun H locs I => ?_)
  refine W.eq (g2 := F0 m 553 ls [.int k]) rfl ?_
  refine lv_istore (lv' := [(5, .int k), (4, .int i), (3, .ref o), (2, .ref hm), (1, .ref h), (0, .ref b0)]) S.1 S.2.1 dL_law_553 hl (by decide) rfl (fun ls hl => ?_)
  refine lv_aload_n S.1 S.2.1 dL_law_555 rfl (lv_at hl 3 rfl) ?_
  refine lv_aload_n S.1 S.2.1 dL_law_556 rfl (lv_at hl 5 rfl) ?_
  refine lv_iload S.1 S.2.1 dL_law_557 (lv_at hl 1 rfl) ?_
  refine lv_iconst (v := 1) S.1 S.2.1 dL_law_559 (by decide) ?_
  refine lv_iadd S.1 S.2.1 dL_law_560 ?_
  refine l_sld S I hX hbl hbA hi1 dL_law_561 ?_
  refine l_c6 (As := [.int (xs (i + 1).toNatClampNeg)]) (rest := []) (st' := [.int r']) (F' := F') (G' := G) S I (tX6_proves l D cI cC cZ hm am F G (xs (i + 1).toNatClampNeg) (r', F') hfm) rfl (cwV 1 S.2.2.2.2 gL_law_X6_proves rfl rfl rfl (by decide +kernel) ⟨Nat.le_of_ble_eq_true rfl, Nat.le_of_ble_eq_true rfl⟩) hl rfl (Nat.le_of_ble_eq_true rfl) hcs rfl dL_law_562 (fun H locs I => ?_)
  refine lv_istore (lv' := [(6, .int r'), (5, .int k), (4, .int i), (3, .ref o), (2, .ref hm), (1, .ref h), (0, .ref b0)]) S.1 S.2.1 dL_law_565 hl (by decide) rfl (fun ls hl => ?_)
  refine lv_aload_n S.1 S.2.1 dL_law_567 rfl (lv_at hl 4 rfl) ?_
  refine l_c6 (As := []) (rest := []) (st' := [.int k]) (F' := F') (G' := G) S I (tX6_thrown l D cI cC cZ hm am F' G k ht) rfl (cwV 0 S.2.2.2.2 gL_law_X6_thrown rfl rfl rfl (by decide +kernel) ⟨Nat.le_of_ble_eq_true rfl, Nat.le_of_ble_eq_true rfl⟩) hl rfl (Nat.le_of_ble_eq_true rfl) hcs rfl dL_law_568 (fun H locs I => ?_)
  refine lv_iload S.1 S.2.1 dL_law_571 (lv_at hl 1 rfl) ?_
  refine lv_icmp_eq (tgt := 578) S.1 S.2.1 dL_law_573 (by decide) (fun c1 => ?_) (fun c1 => absurd rfl c1)
  refine lv_iload S.1 S.2.1 dL_law_578 (lv_at hl 1 rfl) ?_
  refine lv_if_ne (tgt := 595) S.1 S.2.1 dL_law_580 (by decide) (fun c2 => ?_) (fun c2 => ?_)
  · refine lv_goto (tgt := 1545) S.1 S.2.1 dL_law_595 (by decide) ?_
    exact kk _ _ _ _ I (lv_sub hl [2, 3, 4, 5, 6] rfl)
  refine lv_aload_n S.1 S.2.1 dL_law_583 rfl (lv_at hl 3 rfl) ?_
  refine lv_iconst (v := 0) S.1 S.2.1 dL_law_584 (by decide) ?_
  refine l_c8 S I dL_law_585 ?_
  refine lv_iload S.1 S.2.1 dL_law_586 (lv_at hl 0 rfl) ?_
  refine lv_i2l (v := r'.toInt64) S.1 S.2.1 dL_law_588 rfl ?_
  refine W.lcmp S.1 S.2.1 dL_law_589 ?_
  refine lv_if_eq (tgt := 595) S.1 S.2.1 dL_law_590 (by decide) (fun c3 => ?_) (fun c3 => absurd (l_cmp0 ((l_f0 c2).trans (by rw [hv c2]))) c3)
  refine lv_goto (tgt := 1545) S.1 S.2.1 dL_law_595 (by decide) ?_
  exact kk _ _ _ _ I (lv_sub hl [2, 3, 4, 5, 6] rfl)
set_option maxHeartbeats 4000000 in
set_option maxRecDepth 100000 in
theorem tLaw_11 (l : Launch) (hlf : l.stackTraces = false) (sa : Nat → Nat) (D : va_G) (cI cC cZ cL : ClassId) (h o hm : Nat) (a b d z q am : Nat → Nat) (Fp : xF) (Gp : xG) (Fo : xF) (Go : xG) (Fz : xF) (Gz : xG) (Fq : xF) (Gq : xG) (f : Nat → Int64) (F : xF) (G : xG) {p : Program} {e : Env} {s : State} {m : MethodId} {args : Array Value} {below : List Frame} {meth : Method} {c : Code} {A : Nat → Prop} {Q : State → Prop} {H : Heap} {locs : List Loc} {cells slots : Nat} {ls : Array Slot} {b0 L : Nat} {xs : Nat → Int32} {i : Int32} (S : CallFix p m c cL_law 7 s args wsL_law RL) (Z : yZ sa A s s.heap) (hX : va_X b0 L xs s s.heap) (hbl : b0 < s.heap.size) (hbA : ¬ A b0) (I : xI D A s (wL cI cC cZ cL h a b d z q Fp Gp Fo Go Fz Gz Fq Gq o f hm am F G) (xTL cI cC cZ cL) H locs) (hl : lv_has ls 7 [(4, .int i), (3, .ref o), (2, .ref hm), (1, .ref h), (0, .ref b0)]) (hcs : cells + 1 ≤ 1108 ∧ slots + 6 ≤ 19580) (hi1 : vp_in (i + 1) L) (hi2 : vp_in (i + 2) L) (hi3 : vp_in (i + 3) L) {k r r' : Int32} {Gz' : xG} {F' : xF} {G' : xG} (hx9 : ¬ k = 0 → ¬ k = 1 → k = 2) (hfx : fX5_proof Fz Gz (xs (i + 1).toNatClampNeg) (xs (i + 2).toNatClampNeg) (xs (i + 3).toNatClampNeg) = some (k, r, Gz')) (hfm : fX6_proof F G (xs (i + 1).toNatClampNeg) (xs (i + 2).toNatClampNeg) (xs (i + 3).toNatClampNeg) = some (r', F', G')) (ht : fX6_thrown F' = some k) (hv : k = 0 → r = r') (kk : ∀ (H1 : Heap) (locs1 : List Loc) (ls1 : Array Slot) (f1 : Nat → Int64), xI D A s (wL cI cC cZ cL h a b d z q Fp Gp Fo Go Fz Gz' Fq Gq o f1 hm am F' G') (xTL cI cC cZ cL) H1 locs1 → lv_has ls1 7 [(4, .int i), (3, .ref o), (2, .ref hm), (1, .ref h), (0, .ref b0)] → W p l e room_1 s m args below meth c H1 locs1 (cells + 1) (slots + 6) Q (F0 m 1545 ls1 [])) : W p l e room_1 s m args below meth c H locs cells slots Q (F0 m 598 ls []) := by
  refine lv_aload_n S.1 S.2.1 dL_law_598 rfl (lv_at hl 3 rfl) ?_
  refine lv_aload_n S.1 S.2.1 dL_law_599 rfl (lv_at hl 4 rfl) ?_
  refine lv_iload S.1 S.2.1 dL_law_600 (lv_at hl 0 rfl) ?_
  refine lv_iconst (v := 1) S.1 S.2.1 dL_law_602 (by decide) ?_
  refine lv_iadd S.1 S.2.1 dL_law_603 ?_
  refine l_sld S I hX hbl hbA hi1 dL_law_604 ?_
  refine lv_aload_n S.1 S.2.1 dL_law_605 rfl (lv_at hl 4 rfl) ?_
  refine lv_iload S.1 S.2.1 dL_law_606 (lv_at hl 0 rfl) ?_
  refine lv_iconst (v := 2) S.1 S.2.1 dL_law_608 (by decide) ?_
  refine lv_iadd S.1 S.2.1 dL_law_609 ?_
  refine l_sld S I hX hbl hbA hi2 dL_law_610 ?_
  refine lv_aload_n S.1 S.2.1 dL_law_611 rfl (lv_at hl 4 rfl) ?_
  refine lv_iload S.1 S.2.1 dL_law_612 (lv_at hl 0 rfl) ?_
  refine lv_iconst (v := 3) S.1 S.2.1 dL_law_614 (by decide) ?_
  refine lv_iadd S.1 S.2.1 dL_law_615 ?_
  refine l_sld S I hX hbl hbA hi3 dL_law_616 ?_
  refine lv_aload_n S.1 S.2.1 dL_law_617 rfl (lv_at hl 1 rfl) ?_
  refine l_c7 (As := [.ref h, .int (xs (i + 1).toNatClampNeg), .int (xs (i + 2).toNatClampNeg), .int (xs (i + 3).toNatClampNeg), .ref o]) (rest := []) (Fp' := Fp) (Gp' := Gp) (Fo' := Fo) (Go' := Go) (Fz' := Fz) (Gz' := Gz') (Fq' := Fq) (Gq' := Gq) (f' := (if k = 0 then vp_updL f 0 r.toInt64 else f)) S I Z (tL_proof l hlf sa D cI cC cZ cL h o a b d z q Fp Gp Fo Go Fz Gz Fq Gq f (xs (i + 1).toNatClampNeg) (xs (i + 2).toNatClampNeg) (xs (i + 3).toNatClampNeg) (k, r, Gz') hx9 hfx) rfl (vx_cwSW 5 S.2.2.2.2 gL_law_L_proof rfl rfl rfl (by decide +kernel) ⟨Nat.le_of_ble_eq_true rfl, Nat.le_of_ble_eq_true rfl⟩) hl rfl (Nat.le_of_ble_eq_true rfl) hcs dL_law_618 (fun H locs I => ?_)
  refine W.eq (g2 := F0 m 621 ls [.int k]) rfl ?_
  refine lv_istore (lv' := [(5, .int k), (4, .int i), (3, .ref o), (2, .ref hm), (1, .ref h), (0, .ref b0)]) S.1 S.2.1 dL_law_621 hl (by decide) rfl (fun ls hl => ?_)
  refine lv_aload_n S.1 S.2.1 dL_law_623 rfl (lv_at hl 3 rfl) ?_
  refine lv_aload_n S.1 S.2.1 dL_law_624 rfl (lv_at hl 5 rfl) ?_
  refine lv_iload S.1 S.2.1 dL_law_625 (lv_at hl 1 rfl) ?_
  refine lv_iconst (v := 1) S.1 S.2.1 dL_law_627 (by decide) ?_
  refine lv_iadd S.1 S.2.1 dL_law_628 ?_
  refine l_sld S I hX hbl hbA hi1 dL_law_629 ?_
  refine lv_aload_n S.1 S.2.1 dL_law_630 rfl (lv_at hl 5 rfl) ?_
  refine lv_iload S.1 S.2.1 dL_law_631 (lv_at hl 1 rfl) ?_
  refine lv_iconst (v := 2) S.1 S.2.1 dL_law_633 (by decide) ?_
  refine lv_iadd S.1 S.2.1 dL_law_634 ?_
  refine l_sld S I hX hbl hbA hi2 dL_law_635 ?_
  refine lv_aload_n S.1 S.2.1 dL_law_636 rfl (lv_at hl 5 rfl) ?_
  refine lv_iload S.1 S.2.1 dL_law_637 (lv_at hl 1 rfl) ?_
  refine lv_iconst (v := 3) S.1 S.2.1 dL_law_639 (by decide) ?_
  refine lv_iadd S.1 S.2.1 dL_law_640 ?_
  refine l_sld S I hX hbl hbA hi3 dL_law_641 ?_
  refine l_c6 (As := [.int (xs (i + 1).toNatClampNeg), .int (xs (i + 2).toNatClampNeg), .int (xs (i + 3).toNatClampNeg)]) (rest := []) (st' := [.int r']) (F' := F') (G' := G') S I (tX6_proof l D cI cC cZ hm am F G (xs (i + 1).toNatClampNeg) (xs (i + 2).toNatClampNeg) (xs (i + 3).toNatClampNeg) (r', F', G') hfm) rfl (cwV 3 S.2.2.2.2 gL_law_X6_proof rfl rfl rfl (by decide +kernel) ⟨Nat.le_of_ble_eq_true rfl, Nat.le_of_ble_eq_true rfl⟩) hl rfl (Nat.le_of_ble_eq_true rfl) hcs rfl dL_law_642 (fun H locs I => ?_)
  refine lv_istore (lv' := [(6, .int r'), (5, .int k), (4, .int i), (3, .ref o), (2, .ref hm), (1, .ref h), (0, .ref b0)]) S.1 S.2.1 dL_law_645 hl (by decide) rfl (fun ls hl => ?_)
  refine lv_aload_n S.1 S.2.1 dL_law_647 rfl (lv_at hl 4 rfl) ?_
  refine l_c6 (As := []) (rest := []) (st' := [.int k]) (F' := F') (G' := G') S I (tX6_thrown l D cI cC cZ hm am F' G' k ht) rfl (cwV 0 S.2.2.2.2 gL_law_X6_thrown rfl rfl rfl (by decide +kernel) ⟨Nat.le_of_ble_eq_true rfl, Nat.le_of_ble_eq_true rfl⟩) hl rfl (Nat.le_of_ble_eq_true rfl) hcs rfl dL_law_648 (fun H locs I => ?_)
  refine lv_iload S.1 S.2.1 dL_law_651 (lv_at hl 1 rfl) ?_
  refine lv_icmp_eq (tgt := 658) S.1 S.2.1 dL_law_653 (by decide) (fun c1 => ?_) (fun c1 => absurd rfl c1)
  refine lv_iload S.1 S.2.1 dL_law_658 (lv_at hl 1 rfl) ?_
  refine lv_if_ne (tgt := 675) S.1 S.2.1 dL_law_660 (by decide) (fun c2 => ?_) (fun c2 => ?_)
  · refine lv_goto (tgt := 1545) S.1 S.2.1 dL_law_675 (by decide) ?_
    exact kk _ _ _ _ I (lv_sub hl [2, 3, 4, 5, 6] rfl)
  refine lv_aload_n S.1 S.2.1 dL_law_663 rfl (lv_at hl 3 rfl) ?_
  refine lv_iconst (v := 0) S.1 S.2.1 dL_law_664 (by decide) ?_
  refine l_c8 S I dL_law_665 ?_
  refine lv_iload S.1 S.2.1 dL_law_666 (lv_at hl 0 rfl) ?_
  refine lv_i2l (v := r'.toInt64) S.1 S.2.1 dL_law_668 rfl ?_
  refine W.lcmp S.1 S.2.1 dL_law_669 ?_
  refine lv_if_eq (tgt := 675) S.1 S.2.1 dL_law_670 (by decide) (fun c3 => ?_) (fun c3 => absurd (l_cmp0 ((l_f0 c2).trans (by rw [hv c2]))) c3)
  refine lv_goto (tgt := 1545) S.1 S.2.1 dL_law_675 (by decide) ?_
  exact kk _ _ _ _ I (lv_sub hl [2, 3, 4, 5, 6] rfl)
set_option maxHeartbeats 4000000 in
set_option maxRecDepth 100000 in
theorem tLaw_12 (l : Launch) (hlf : l.stackTraces = false) (sa : Nat → Nat) (D : va_G) (cI cC cZ cL : ClassId) (h o hm : Nat) (a b d z q am : Nat → Nat) (Fp : xF) (Gp : xG) (Fo : xF) (Go : xG) (Fz : xF) (Gz : xG) (Fq : xF) (Gq : xG) (f : Nat → Int64) (F : xF) (G : xG) {p : Program} {e : Env} {s : State} {m : MethodId} {args : Array Value} {below : List Frame} {meth : Method} {c : Code} {A : Nat → Prop} {Q : State → Prop} {H : Heap} {locs : List Loc} {cells slots : Nat} {ls : Array Slot} {b0 L : Nat} {xs : Nat → Int32} {i : Int32} (S : CallFix p m c cL_law 7 s args wsL_law RL) (Z : yZ sa A s s.heap) (hX : va_X b0 L xs s s.heap) (hbl : b0 < s.heap.size) (hbA : ¬ A b0) (I : xI D A s (wL cI cC cZ cL h a b d z q Fp Gp Fo Go Fz Gz Fq Gq o f hm am F G) (xTL cI cC cZ cL) H locs) (hl : lv_has ls 7 [(4, .int i), (3, .ref o), (2, .ref hm), (1, .ref h), (0, .ref b0)]) (hcs : cells + 1 ≤ 1108 ∧ slots + 6 ≤ 19580) (hi1 : vp_in (i + 1) L) (hi2 : vp_in (i + 2) L) {k r r' : Int32}  {F' : xF} (hx9 : ¬ k = 0 → ¬ k = 1 → k = 2) (hfx : fX5_known Fz Gz (xs (i + 1).toNatClampNeg) (xs (i + 2).toNatClampNeg) = some (k, r)) (hfm : fX6_known F G (xs (i + 1).toNatClampNeg) (xs (i + 2).toNatClampNeg) = some (r', F')) (ht : fX6_thrown F' = some k) (hv : k = 0 → r = r') (kk : ∀ (H1 : Heap) (locs1 : List Loc) (ls1 : Array Slot) (f1 : Nat → Int64), xI D A s (wL cI cC cZ cL h a b d z q Fp Gp Fo Go Fz Gz Fq Gq o f1 hm am F' G) (xTL cI cC cZ cL) H1 locs1 → lv_has ls1 7 [(4, .int i), (3, .ref o), (2, .ref hm), (1, .ref h), (0, .ref b0)] → W p l e room_1 s m args below meth c H1 locs1 (cells + 1) (slots + 6) Q (F0 m 1545 ls1 [])) : W p l e room_1 s m args below meth c H locs cells slots Q (F0 m 678 ls []) := by
  refine lv_aload_n S.1 S.2.1 dL_law_678 rfl (lv_at hl 3 rfl) ?_
  refine lv_aload_n S.1 S.2.1 dL_law_679 rfl (lv_at hl 4 rfl) ?_
  refine lv_iload S.1 S.2.1 dL_law_680 (lv_at hl 0 rfl) ?_
  refine lv_iconst (v := 1) S.1 S.2.1 dL_law_682 (by decide) ?_
  refine lv_iadd S.1 S.2.1 dL_law_683 ?_
  refine l_sld S I hX hbl hbA hi1 dL_law_684 ?_
  refine lv_aload_n S.1 S.2.1 dL_law_685 rfl (lv_at hl 4 rfl) ?_
  refine lv_iload S.1 S.2.1 dL_law_686 (lv_at hl 0 rfl) ?_
  refine lv_iconst (v := 2) S.1 S.2.1 dL_law_688 (by decide) ?_
  refine lv_iadd S.1 S.2.1 dL_law_689 ?_
  refine l_sld S I hX hbl hbA hi2 dL_law_690 ?_
  refine lv_aload_n S.1 S.2.1 dL_law_691 rfl (lv_at hl 1 rfl) ?_
  refine l_c7 (As := [.ref h, .int (xs (i + 1).toNatClampNeg), .int (xs (i + 2).toNatClampNeg), .ref o]) (rest := []) (Fp' := Fp) (Gp' := Gp) (Fo' := Fo) (Go' := Go) (Fz' := Fz) (Gz' := Gz) (Fq' := Fq) (Gq' := Gq) (f' := (if k = 0 then vp_updL f 0 r.toInt64 else f)) S I Z (tL_known l hlf sa D cI cC cZ cL h o a b d z q Fp Gp Fo Go Fz Gz Fq Gq f (xs (i + 1).toNatClampNeg) (xs (i + 2).toNatClampNeg) (k, r) hx9 hfx) rfl (vx_cwSW 4 S.2.2.2.2 gL_law_L_known rfl rfl rfl (by decide +kernel) ⟨Nat.le_of_ble_eq_true rfl, Nat.le_of_ble_eq_true rfl⟩) hl rfl (Nat.le_of_ble_eq_true rfl) hcs dL_law_692 (fun H locs I => ?_)
  refine W.eq (g2 := F0 m 695 ls [.int k]) rfl ?_
  refine lv_istore (lv' := [(5, .int k), (4, .int i), (3, .ref o), (2, .ref hm), (1, .ref h), (0, .ref b0)]) S.1 S.2.1 dL_law_695 hl (by decide) rfl (fun ls hl => ?_)
  refine lv_aload_n S.1 S.2.1 dL_law_697 rfl (lv_at hl 3 rfl) ?_
  refine lv_aload_n S.1 S.2.1 dL_law_698 rfl (lv_at hl 5 rfl) ?_
  refine lv_iload S.1 S.2.1 dL_law_699 (lv_at hl 1 rfl) ?_
  refine lv_iconst (v := 1) S.1 S.2.1 dL_law_701 (by decide) ?_
  refine lv_iadd S.1 S.2.1 dL_law_702 ?_
  refine l_sld S I hX hbl hbA hi1 dL_law_703 ?_
  refine lv_aload_n S.1 S.2.1 dL_law_704 rfl (lv_at hl 5 rfl) ?_
  refine lv_iload S.1 S.2.1 dL_law_705 (lv_at hl 1 rfl) ?_
  refine lv_iconst (v := 2) S.1 S.2.1 dL_law_707 (by decide) ?_
  refine lv_iadd S.1 S.2.1 dL_law_708 ?_
  refine l_sld S I hX hbl hbA hi2 dL_law_709 ?_
  refine l_c6 (As := [.int (xs (i + 1).toNatClampNeg), .int (xs (i + 2).toNatClampNeg)]) (rest := []) (st' := [.int r']) (F' := F') (G' := G) S I (tX6_known l D cI cC cZ hm am F G (xs (i + 1).toNatClampNeg) (xs (i + 2).toNatClampNeg) (r', F') hfm) rfl (cwV 2 S.2.2.2.2 gL_law_X6_known rfl rfl rfl (by decide +kernel) ⟨Nat.le_of_ble_eq_true rfl, Nat.le_of_ble_eq_true rfl⟩) hl rfl (Nat.le_of_ble_eq_true rfl) hcs rfl dL_law_710 (fun H locs I => ?_)
  refine lv_istore (lv' := [(6, .int r'), (5, .int k), (4, .int i), (3, .ref o), (2, .ref hm), (1, .ref h), (0, .ref b0)]) S.1 S.2.1 dL_law_713 hl (by decide) rfl (fun ls hl => ?_)
  refine lv_aload_n S.1 S.2.1 dL_law_715 rfl (lv_at hl 4 rfl) ?_
  refine l_c6 (As := []) (rest := []) (st' := [.int k]) (F' := F') (G' := G) S I (tX6_thrown l D cI cC cZ hm am F' G k ht) rfl (cwV 0 S.2.2.2.2 gL_law_X6_thrown rfl rfl rfl (by decide +kernel) ⟨Nat.le_of_ble_eq_true rfl, Nat.le_of_ble_eq_true rfl⟩) hl rfl (Nat.le_of_ble_eq_true rfl) hcs rfl dL_law_716 (fun H locs I => ?_)
  refine lv_iload S.1 S.2.1 dL_law_719 (lv_at hl 1 rfl) ?_
  refine lv_icmp_eq (tgt := 726) S.1 S.2.1 dL_law_721 (by decide) (fun c1 => ?_) (fun c1 => absurd rfl c1)
  refine lv_iload S.1 S.2.1 dL_law_726 (lv_at hl 1 rfl) ?_
  refine lv_if_ne (tgt := 743) S.1 S.2.1 dL_law_728 (by decide) (fun c2 => ?_) (fun c2 => ?_)
  · refine lv_goto (tgt := 1545) S.1 S.2.1 dL_law_743 (by decide) ?_
    exact kk _ _ _ _ I (lv_sub hl [2, 3, 4, 5, 6] rfl)
  refine lv_aload_n S.1 S.2.1 dL_law_731 rfl (lv_at hl 3 rfl) ?_
  refine lv_iconst (v := 0) S.1 S.2.1 dL_law_732 (by decide) ?_
  refine l_c8 S I dL_law_733 ?_
  refine lv_iload S.1 S.2.1 dL_law_734 (lv_at hl 0 rfl) ?_
  refine lv_i2l (v := r'.toInt64) S.1 S.2.1 dL_law_736 rfl ?_
  refine W.lcmp S.1 S.2.1 dL_law_737 ?_
  refine lv_if_eq (tgt := 743) S.1 S.2.1 dL_law_738 (by decide) (fun c3 => ?_) (fun c3 => absurd (l_cmp0 ((l_f0 c2).trans (by rw [hv c2]))) c3)
  refine lv_goto (tgt := 1545) S.1 S.2.1 dL_law_743 (by decide) ?_
  exact kk _ _ _ _ I (lv_sub hl [2, 3, 4, 5, 6] rfl)
set_option maxHeartbeats 4000000 in
set_option maxRecDepth 100000 in
theorem tLaw_13 (l : Launch) (hlf : l.stackTraces = false) (sa : Nat → Nat) (D : va_G) (cI cC cZ cL : ClassId) (h o hm : Nat) (a b d z q am : Nat → Nat) (Fp : xF) (Gp : xG) (Fo : xF) (Go : xG) (Fz : xF) (Gz : xG) (Fq : xF) (Gq : xG) (f : Nat → Int64) (F : xF) (G : xG) {p : Program} {e : Env} {s : State} {m : MethodId} {args : Array Value} {below : List Frame} {meth : Method} {c : Code} {A : Nat → Prop} {Q : State → Prop} {H : Heap} {locs : List Loc} {cells slots : Nat} {ls : Array Slot} {b0 L : Nat} {xs : Nat → Int32} {i : Int32} (S : CallFix p m c cL_law 7 s args wsL_law RL) (Z : yZ sa A s s.heap) (hX : va_X b0 L xs s s.heap) (hbl : b0 < s.heap.size) (hbA : ¬ A b0) (I : xI D A s (wL cI cC cZ cL h a b d z q Fp Gp Fo Go Fz Gz Fq Gq o f hm am F G) (xTL cI cC cZ cL) H locs) (hl : lv_has ls 7 [(4, .int i), (3, .ref o), (2, .ref hm), (1, .ref h), (0, .ref b0)]) (hcs : cells + 1 ≤ 1108 ∧ slots + 6 ≤ 19580) {r r' : Int32}  {F' : xF} (hfx : fX5_open Fz Gz = some r) (hfm : fX6_open F G = some (r', F')) (hv : r = r') (kk : ∀ (H1 : Heap) (locs1 : List Loc) (ls1 : Array Slot) (f1 : Nat → Int64), xI D A s (wL cI cC cZ cL h a b d z q Fp Gp Fo Go Fz Gz Fq Gq o f1 hm am F' G) (xTL cI cC cZ cL) H1 locs1 → lv_has ls1 7 [(4, .int i), (3, .ref o), (2, .ref hm), (1, .ref h), (0, .ref b0)] → W p l e room_1 s m args below meth c H1 locs1 (cells + 1) (slots + 6) Q (F0 m 1545 ls1 [])) : W p l e room_1 s m args below meth c H locs cells slots Q (F0 m 746 ls []) := by
  refine lv_aload_n S.1 S.2.1 dL_law_746 rfl (lv_at hl 3 rfl) ?_
  refine l_c5 (As := []) (rest := []) (st' := [.int r]) (Fp' := Fp) (Gp' := Gp) (Fo' := Fo) (Go' := Go) (Fz' := Fz) (Gz' := Gz) (Fq' := Fq) (Gq' := Gq) S I (tX5_open l D cI cC cZ h a b d z q Fp Gp Fo Go Fz Gz Fq Gq r hfx) rfl (cwV 0 S.2.2.2.2 gL_law_X5_open rfl rfl rfl (by decide +kernel) ⟨Nat.le_of_ble_eq_true rfl, Nat.le_of_ble_eq_true rfl⟩) hl rfl (Nat.le_of_ble_eq_true rfl) ⟨Nat.le_trans (Nat.le_add_right _ 1) hcs.1, Nat.le_trans (Nat.le_add_right _ 6) hcs.2⟩ rfl dL_law_747 (fun H locs I => ?_)
  refine lv_aload_n S.1 S.2.1 dL_law_750 rfl (lv_at hl 2 rfl) ?_
  refine l_c6 (As := []) (rest := [.int r]) (st' := [.int r', .int r]) (F' := F') (G' := G) S I (tX6_open l D cI cC cZ hm am F G  (r', F') hfm) rfl (cwV 0 S.2.2.2.2 gL_law_X6_open rfl rfl rfl (by decide +kernel) ⟨Nat.le_of_ble_eq_true rfl, Nat.le_of_ble_eq_true rfl⟩) hl rfl (Nat.le_of_ble_eq_true rfl) ⟨Nat.le_trans (Nat.le_add_right _ 1) hcs.1, Nat.le_trans (Nat.le_add_right _ 6) hcs.2⟩ rfl dL_law_751 (fun H locs I => ?_)
  refine lv_icmp_eq (tgt := 1545) S.1 S.2.1 dL_law_754 (by decide) (fun c1 => ?_) (fun c1 => absurd hv c1)
  refine W.widen (k := cells + 1) (n := slots + 6) (Nat.le_add_right _ _) (Nat.le_add_right _ _) ?_
  exact kk _ _ _ _ I (lv_sub hl [0, 1, 2, 3, 4] rfl)
