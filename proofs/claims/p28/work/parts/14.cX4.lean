set_option maxHeartbeats 4000000 in
set_option maxRecDepth 100000 in
theorem tX4_includes (l : Launch) (D : va_G) (cI cC cZ : ClassId) (p1 p2 : Int32) (res : Int32) (hf : fX4_includes p1 p2 = some res) : xC l yX4_includes wsX4_includes rmX4_includes D [.int p1, .int p2] [] (fun _ => []) (xT cI cC cZ) (fun t => some (.int t)) res := by
  refine x_of (cc := cX4_includes) (maxL := 2) (ret := (some .boolean)) (by decide) rfl (Nat.le_of_ble_eq_true rfl) ?_
  intro p e s m args below meth c A Q ls S I E hl
  replace hl : lv_has ls 2 [(0, .int p1), (1, .int p2)] := hl
  replace hf := (fX4_includes_e _ _).symm.trans hf
  refine lv_iload_n S.1 S.2.1 dX4_includes_0 rfl (lv_at hl 1 rfl) ?_
  refine lv_iload_n S.1 S.2.1 dX4_includes_1 rfl (lv_at hl 0 rfl) ?_
  refine lv_iconst (v := (-1)) S.1 S.2.1 dX4_includes_2 (by decide) ?_
  refine lv_ixor S.1 S.2.1 dX4_includes_3 ?_
  refine lv_iand S.1 S.2.1 dX4_includes_4 ?_
  refine lv_if_ne (tgt := 12) S.1 S.2.1 dX4_includes_5 (by decide) (fun c1 => ?_) (fun c1 => ?_)
  · replace hf := x_ifF hf c1
    refine lv_iconst (v := 0) S.1 S.2.1 dX4_includes_12 (by decide) ?_
    exact x_ri E rfl x_n0 hf rfl I rfl dX4_includes_13
  · replace hf := x_ifT hf c1
    refine lv_iconst (v := 1) S.1 S.2.1 dX4_includes_8 (by decide) ?_
    refine lv_goto (tgt := 13) S.1 S.2.1 dX4_includes_9 (by decide) ?_
    exact x_ri E rfl x_n1 hf rfl I rfl dX4_includes_13
set_option maxHeartbeats 4000000 in
set_option maxRecDepth 100000 in
theorem tX4_contains (l : Launch) (D : va_G) (cI cC cZ : ClassId) (p1 p2 : Int32) (res : Int32) (hf : fX4_contains p1 p2 = some res) : xC l yX4_contains wsX4_contains rmX4_contains D [.int p1, .int p2] [] (fun _ => []) (xT cI cC cZ) (fun t => some (.int t)) res := by
  refine x_of (cc := cX4_contains) (maxL := 2) (ret := (some .boolean)) (by decide) rfl (Nat.le_of_ble_eq_true rfl) ?_
  intro p e s m args below meth c A Q ls S I E hl
  replace hl : lv_has ls 2 [(0, .int p1), (1, .int p2)] := hl
  replace hf := (fX4_contains_e _ _).symm.trans hf
  refine lv_iload_n S.1 S.2.1 dX4_contains_0 rfl (lv_at hl 0 rfl) ?_
  refine lv_iload_n S.1 S.2.1 dX4_contains_1 rfl (lv_at hl 1 rfl) ?_
  refine lv_ishr S.1 S.2.1 dX4_contains_2 ?_
  refine lv_iconst (v := 1) S.1 S.2.1 dX4_contains_3 (by decide) ?_
  refine lv_iand S.1 S.2.1 dX4_contains_4 ?_
  refine lv_if_eq (tgt := 12) S.1 S.2.1 dX4_contains_5 (by decide) (fun c1 => ?_) (fun c1 => ?_)
  · replace hf := x_ifT hf c1
    refine lv_iconst (v := 0) S.1 S.2.1 dX4_contains_12 (by decide) ?_
    exact x_ri E rfl x_n0 hf rfl I rfl dX4_contains_13
  · replace hf := x_ifF hf c1
    refine lv_iconst (v := 1) S.1 S.2.1 dX4_contains_8 (by decide) ?_
    refine lv_goto (tgt := 13) S.1 S.2.1 dX4_contains_9 (by decide) ?_
    exact x_ri E rfl x_n1 hf rfl I rfl dX4_contains_13
set_option maxHeartbeats 4000000 in
set_option maxRecDepth 100000 in
theorem tX4_brings (l : Launch) (D : va_G) (cI cC cZ : ClassId) (p1 p2 p3 : Int32) (res : Int32) (hf : fX4_brings p1 p2 p3 = some res) : xC l yX4_brings wsX4_brings rmX4_brings D [.int p1, .int p2, .int p3] [] (fun _ => []) (xT cI cC cZ) (fun t => some (.int t)) res := by
  refine x_of (cc := cX4_brings) (maxL := 3) (ret := (some .boolean)) (by decide) rfl (Nat.le_of_ble_eq_true rfl) ?_
  intro p e s m args below meth c A Q ls S I E hl
  replace hl : lv_has ls 3 [(0, .int p1), (1, .int p2), (2, .int p3)] := hl
  replace hf := (fX4_brings_e _ _ _).symm.trans hf
  refine lv_iload_n S.1 S.2.1 dX4_brings_0 rfl (lv_at hl 0 rfl) ?_
  refine lv_iload_n S.1 S.2.1 dX4_brings_1 rfl (lv_at hl 1 rfl) ?_
  obtain ⟨r2, hg1, hf⟩ := x_b1E hf
  refine x_c0 (As := [.int p1, .int p2]) (rest := []) (st' := [.int r2]) S I rfl (tX4_includes l D cI cC cZ p1 p2 r2 hg1) (va_cwS 2 S.2.2.2.2 gX4_brings_X4_includes rfl rfl rfl (by decide +kernel) ⟨Nat.le_of_ble_eq_true rfl, Nat.le_of_ble_eq_true rfl⟩) hl rfl (Nat.le_of_ble_eq_true rfl) ⟨Nat.zero_le _, Nat.zero_le _⟩ rfl dX4_brings_2 (fun H locs I => ?_)
  refine lv_if_eq (tgt := 20) S.1 S.2.1 dX4_brings_5 (by decide) (fun c3 => ?_) (fun c3 => ?_)
  · replace hf := x_ifT hf c3
    refine lv_iconst (v := 0) S.1 S.2.1 dX4_brings_20 (by decide) ?_
    exact x_ri E rfl x_n0 hf rfl I rfl dX4_brings_21
  · replace hf := x_ifF hf c3
    refine lv_iload_n S.1 S.2.1 dX4_brings_8 rfl (lv_at hl 0 rfl) ?_
    refine lv_iload_n S.1 S.2.1 dX4_brings_9 rfl (lv_at hl 2 rfl) ?_
    obtain ⟨r5, hg4, hf⟩ := x_b1E hf
    refine x_c0 (As := [.int p1, .int p3]) (rest := []) (st' := [.int r5]) S I rfl (tX4_contains l D cI cC cZ p1 p3 r5 hg4) (va_cwS 2 S.2.2.2.2 gX4_brings_X4_contains rfl rfl rfl (by decide +kernel) ⟨Nat.le_of_ble_eq_true rfl, Nat.le_of_ble_eq_true rfl⟩) hl rfl (Nat.le_of_ble_eq_true rfl) ⟨Nat.zero_le _, Nat.zero_le _⟩ rfl dX4_brings_10 (fun H locs I => ?_)
    refine lv_if_ne (tgt := 20) S.1 S.2.1 dX4_brings_13 (by decide) (fun c6 => ?_) (fun c6 => ?_)
    · replace hf := x_ifF hf c6
      refine lv_iconst (v := 0) S.1 S.2.1 dX4_brings_20 (by decide) ?_
      exact x_ri E rfl x_n0 hf rfl I rfl dX4_brings_21
    · replace hf := x_ifT hf c6
      refine lv_iconst (v := 1) S.1 S.2.1 dX4_brings_16 (by decide) ?_
      refine lv_goto (tgt := 21) S.1 S.2.1 dX4_brings_17 (by decide) ?_
      exact x_ri E rfl x_n1 hf rfl I rfl dX4_brings_21
set_option maxHeartbeats 4000000 in
set_option maxRecDepth 100000 in
theorem tX4_nextRule (l : Launch) (D : va_G) (cI cC cZ : ClassId) (h : Nat) (a : Nat → Nat) (F : xF) (G : xG) (p1 : Int32) (res : Int32) (hf : fX4_nextRule F G p1 = some res) : xC l yX4_nextRule wsX4_nextRule rmX4_nextRule D [.ref h, .int p1] (wX4 cI cC cZ h a F G) (fun _ => (wX4 cI cC cZ h a F G)) (xT cI cC cZ) (fun t => some (.int t)) res := by
  have kX4 : ∀ w ∈ u_ws RX4 TX4 9, w ∈ wsX4_nextRule := by decide +kernel
  refine x_of (cc := cX4_nextRule) (maxL := 3) (ret := (some .int)) (by decide) rfl (Nat.le_of_ble_eq_true rfl) ?_
  intro p e s m args below meth c A Q ls S I E hl
  replace hl : lv_has ls 3 [(0, .ref h), (1, .int p1)] := hl
  replace hf := (fX4_nextRule_e _ _ _).symm.trans hf
  refine lv_iconst (v := 0) S.1 S.2.1 dX4_nextRule_0 (by decide) ?_
  refine lv_istore_n (lv' := [(2, .int 0), (0, .ref h), (1, .int p1)]) S.1 S.2.1 dX4_nextRule_1 rfl hl (by decide) rfl (fun ls hl => ?_)
  have hl2 : ∀ (n2 : Nat), ∀ (v1 : Int32) (H : Heap) (locs : List Loc) (ls : Array Slot), (fX4_nextRule_l2 F G p1 n2) v1 = some res → xI D A s (wX4 cI cC cZ h a F G) (xT cI cC cZ) H locs → lv_has ls 3 [(2, .int v1), (0, .ref h), (1, .int p1)] → W p l e (headSpec wsX4_nextRule rmX4_nextRule).room s m args below meth c H locs 0 0 Q (F0 m 2 ls []) := by
    intro n2
    induction n2 with
    | zero =>
      intro v1 H locs ls hf I hl
      cases (fX4_nextRule_l2_z _ _ _ _).symm.trans hf
    | succ n2 ih2 =>
      intro v1 H locs ls hf I hl
      replace hf := (fX4_nextRule_l2_e _ _ _ _ _).symm.trans hf
      refine lv_iload_n S.1 S.2.1 dX4_nextRule_2 rfl (lv_at hl 0 rfl) ?_
      refine lv_aload_n S.1 S.2.1 dX4_nextRule_3 rfl (lv_at hl 1 rfl) ?_
      refine x_get (C := RX4) (T := TX4) (N := 9) (ci := 3) (v := .int (F 7)) S kX4 rfl I 0 7 rfl (by decide) (by decide +kernel) rfl dX4_nextRule_4 ?_
      refine lv_icmp_ge (tgt := 37) S.1 S.2.1 dX4_nextRule_7 (by decide) (fun c2 => ?_) (fun c2 => ?_)
      · replace hf := x_ifT hf c2
        refine lv_iconst (v := (-1)) S.1 S.2.1 dX4_nextRule_37 (by decide) ?_
        exact x_ri E rfl rfl hf rfl I rfl dX4_nextRule_38
      · replace hf := x_ifF hf c2
        refine lv_iload_n S.1 S.2.1 dX4_nextRule_10 rfl (lv_at hl 2 rfl) ?_
        refine lv_aload_n S.1 S.2.1 dX4_nextRule_11 rfl (lv_at hl 1 rfl) ?_
        refine x_get (C := RX4) (T := TX4) (N := 9) (ci := 3) (v := .ref (a 2)) S kX4 rfl I 0 2 rfl (by decide) (by decide +kernel) rfl dX4_nextRule_12 ?_
        refine lv_iload_n S.1 S.2.1 dX4_nextRule_15 rfl (lv_at hl 0 rfl) ?_
        obtain ⟨hi3, hf⟩ := x_ldE hf
        refine x_iald (f := (G 2)) S I 3 0 rfl rfl hi3 dX4_nextRule_16 ?_
        refine lv_aload_n S.1 S.2.1 dX4_nextRule_17 rfl (lv_at hl 1 rfl) ?_
        refine x_get (C := RX4) (T := TX4) (N := 9) (ci := 3) (v := .ref (a 3)) S kX4 rfl I 0 3 rfl (by decide) (by decide +kernel) rfl dX4_nextRule_18 ?_
        refine lv_iload_n S.1 S.2.1 dX4_nextRule_21 rfl (lv_at hl 0 rfl) ?_
        obtain ⟨hi4, hf⟩ := x_ldE hf
        refine x_iald (f := (G 3)) S I 4 0 rfl rfl hi4 dX4_nextRule_22 ?_
        obtain ⟨r6, hg5, hf⟩ := x_b1E hf
        refine x_c0 (As := [.int p1, .int ((G 2) v1.toNatClampNeg), .int ((G 3) v1.toNatClampNeg)]) (rest := []) (st' := [.int r6]) S I rfl (tX4_brings l D cI cC cZ p1 ((G 2) v1.toNatClampNeg) ((G 3) v1.toNatClampNeg) r6 hg5) (va_cwS 3 S.2.2.2.2 gX4_nextRule_X4_brings rfl rfl rfl (by decide +kernel) ⟨Nat.le_of_ble_eq_true rfl, Nat.le_of_ble_eq_true rfl⟩) hl rfl (Nat.le_of_ble_eq_true rfl) ⟨Nat.zero_le _, Nat.zero_le _⟩ rfl dX4_nextRule_23 (fun H locs I => ?_)
        refine lv_if_eq (tgt := 31) S.1 S.2.1 dX4_nextRule_26 (by decide) (fun c7 => ?_) (fun c7 => ?_)
        · replace hf := x_ifT hf c7
          refine lv_iinc (v := (v1 + 1)) (lv' := [(2, .int (v1 + 1)), (0, .ref h), (1, .int p1)]) S.1 S.2.1 dX4_nextRule_31 hl (k := 0) rfl rfl (by decide) rfl (fun ls hl => ?_)
          refine lv_goto (tgt := 2) S.1 S.2.1 dX4_nextRule_34 (by decide) ?_
          exact ih2 (v1 + 1) _ _ _ hf I (lv_sub hl [0, 1, 2] rfl)
        · replace hf := x_ifF hf c7
          refine lv_iload_n S.1 S.2.1 dX4_nextRule_29 rfl (lv_at hl 0 rfl) ?_
          exact x_ri E rfl rfl hf rfl I rfl dX4_nextRule_30
  exact hl2 4096 0 _ _ _ hf I (lv_sub hl [0, 1, 2] rfl)
set_option maxHeartbeats 4000000 in
set_option maxRecDepth 100000 in
theorem tX4_closure (l : Launch) (D : va_G) (cI cC cZ : ClassId) (h : Nat) (a : Nat → Nat) (F : xF) (G : xG) (p1 : Int32) (res : Int32) (hf : fX4_closure F G p1 = some res) : xC l yX4_closure wsX4_closure rmX4_closure D [.ref h, .int p1] (wX4 cI cC cZ h a F G) (fun _ => (wX4 cI cC cZ h a F G)) (xT cI cC cZ) (fun t => some (.int t)) res := by
  have kX4 : ∀ w ∈ u_ws RX4 TX4 9, w ∈ wsX4_closure := by decide +kernel
  refine x_of (cc := cX4_closure) (maxL := 5) (ret := (some .int)) (by decide) rfl (Nat.le_of_ble_eq_true rfl) ?_
  intro p e s m args below meth c A Q ls S I E hl
  replace hl : lv_has ls 5 [(0, .ref h), (1, .int p1)] := hl
  replace hf := (fX4_closure_e _ _ _).symm.trans hf
  refine lv_iload_n S.1 S.2.1 dX4_closure_0 rfl (lv_at hl 1 rfl) ?_
  refine lv_istore_n (lv' := [(2, .int p1), (0, .ref h), (1, .int p1)]) S.1 S.2.1 dX4_closure_1 rfl hl (by decide) rfl (fun ls hl => ?_)
  refine lv_iconst (v := 0) S.1 S.2.1 dX4_closure_2 (by decide) ?_
  refine lv_istore_n (lv' := [(3, .int 0), (2, .int p1), (0, .ref h), (1, .int p1)]) S.1 S.2.1 dX4_closure_3 rfl hl (by decide) rfl (fun ls hl => ?_)
  have hl4 : ∀ (n4 : Nat), ∀ (v1 : Int32) (v2 : Int32) (H : Heap) (locs : List Loc) (ls : Array Slot), (fX4_closure_l4 F G n4) v1 v2 = some res → xI D A s (wX4 cI cC cZ h a F G) (xT cI cC cZ) H locs → lv_has ls 5 [(3, .int v2), (2, .int v1), (0, .ref h)] → W p l e (headSpec wsX4_closure rmX4_closure).room s m args below meth c H locs 0 0 Q (F0 m 4 ls []) := by
    intro n4
    induction n4 with
    | zero =>
      intro v1 v2 H locs ls hf I hl
      cases (fX4_closure_l4_z _ _ _ _).symm.trans hf
    | succ n4 ih4 =>
      intro v1 v2 H locs ls hf I hl
      replace hf := (fX4_closure_l4_e _ _ _ _ _).symm.trans hf
      refine lv_iload_n S.1 S.2.1 dX4_closure_4 rfl (lv_at hl 0 rfl) ?_
      refine lv_bipush (v := 10) S.1 S.2.1 dX4_closure_5 (by decide) ?_
      refine lv_icmp_ge (tgt := 43) S.1 S.2.1 dX4_closure_7 (by decide) (fun c3 => ?_) (fun c3 => ?_)
      · replace hf := x_ifT hf c3
        refine lv_iload_n S.1 S.2.1 dX4_closure_43 rfl (lv_at hl 1 rfl) ?_
        exact x_ri E rfl rfl hf rfl I rfl dX4_closure_44
      · replace hf := x_ifF hf c3
        refine lv_aload_n S.1 S.2.1 dX4_closure_10 rfl (lv_at hl 2 rfl) ?_
        refine lv_iload_n S.1 S.2.1 dX4_closure_11 rfl (lv_at hl 1 rfl) ?_
        obtain ⟨r5, hg4, hf⟩ := x_b1E hf
        refine x_cA (As := [.int v1]) (rest := []) (st' := [.int r5]) (ws' := (wX4 cI cC cZ h a F G)) S I (tX4_nextRule l D cI cC cZ h a F G v1 r5 hg4) (cwV 1 S.2.2.2.2 gX4_closure_X4_nextRule rfl rfl rfl (by decide +kernel) ⟨Nat.le_of_ble_eq_true rfl, Nat.le_of_ble_eq_true rfl⟩) 0 3 rfl rfl rfl rfl hl rfl (Nat.le_of_ble_eq_true rfl) ⟨Nat.zero_le _, Nat.zero_le _⟩ rfl dX4_closure_12 (fun H locs I => ?_)
        refine lv_istore (lv' := [(4, .int r5), (3, .int v2), (2, .int v1), (0, .ref h)]) S.1 S.2.1 dX4_closure_15 hl (by decide) rfl (fun ls hl => ?_)
        refine lv_iload S.1 S.2.1 dX4_closure_17 (lv_at hl 0 rfl) ?_
        refine lv_iconst (v := (-1)) S.1 S.2.1 dX4_closure_19 (by decide) ?_
        refine lv_icmp_ne (tgt := 25) S.1 S.2.1 dX4_closure_20 (by decide) (fun c6 => ?_) (fun c6 => ?_)
        · replace hf := x_ifF hf c6
          refine lv_iload_n S.1 S.2.1 dX4_closure_25 rfl (lv_at hl 2 rfl) ?_
          refine lv_iconst (v := 1) S.1 S.2.1 dX4_closure_26 (by decide) ?_
          refine lv_aload_n S.1 S.2.1 dX4_closure_27 rfl (lv_at hl 3 rfl) ?_
          refine x_get (C := RX4) (T := TX4) (N := 9) (ci := 3) (v := .ref (a 3)) S kX4 rfl I 0 3 rfl (by decide) (by decide +kernel) rfl dX4_closure_28 ?_
          refine lv_iload S.1 S.2.1 dX4_closure_31 (lv_at hl 0 rfl) ?_
          obtain ⟨hi7, hf⟩ := x_ldE hf
          refine x_iald (f := (G 3)) S I 4 0 rfl rfl hi7 dX4_closure_33 ?_
          refine lv_ishl S.1 S.2.1 dX4_closure_34 ?_
          refine lv_ior S.1 S.2.1 dX4_closure_35 ?_
          refine lv_istore_n (lv' := [(2, .int (v1 ||| (x_shl 1 ((G 3) r5.toNatClampNeg)))), (4, .int r5), (3, .int v2), (0, .ref h)]) S.1 S.2.1 dX4_closure_36 rfl hl (by decide) rfl (fun ls hl => ?_)
          refine lv_iinc (v := (v2 + 1)) (lv' := [(3, .int (v2 + 1)), (2, .int (v1 ||| (x_shl 1 ((G 3) r5.toNatClampNeg)))), (4, .int r5), (0, .ref h)]) S.1 S.2.1 dX4_closure_37 hl (k := 2) rfl rfl (by decide) rfl (fun ls hl => ?_)
          refine lv_goto (tgt := 4) S.1 S.2.1 dX4_closure_40 (by decide) ?_
          exact ih4 (v1 ||| (x_shl 1 ((G 3) r5.toNatClampNeg))) (v2 + 1) _ _ _ hf I (lv_sub hl [0, 1, 3] rfl)
        · replace hf := x_ifT hf c6
          refine lv_iload_n S.1 S.2.1 dX4_closure_23 rfl (lv_at hl 2 rfl) ?_
          exact x_ri E rfl rfl hf rfl I rfl dX4_closure_24
  exact hl4 4096 p1 0 _ _ _ hf I (lv_sub hl [0, 1, 2] rfl)
set_option maxHeartbeats 4000000 in
set_option maxRecDepth 100000 in
theorem tX4_verdict (l : Launch) (D : va_G) (cI cC cZ : ClassId) (h : Nat) (a : Nat → Nat) (F : xF) (G : xG) (p1 p2 : Int32) (res : Int32) (hf : fX4_verdict F G p1 p2 = some res) : xC l yX4_verdict wsX4_verdict rmX4_verdict D [.ref h, .int p1, .int p2] (wX4 cI cC cZ h a F G) (fun _ => (wX4 cI cC cZ h a F G)) (xT cI cC cZ) (fun t => some (.int t)) res := by
  have kX4 : ∀ w ∈ u_ws RX4 TX4 9, w ∈ wsX4_verdict := by decide +kernel
  refine x_of (cc := cX4_verdict) (maxL := 4) (ret := (some .int)) (by decide) rfl (Nat.le_of_ble_eq_true rfl) ?_
  intro p e s m args below meth c A Q ls S I E hl
  replace hl : lv_has ls 4 [(0, .ref h), (1, .int p1), (2, .int p2)] := hl
  replace hf := (fX4_verdict_e _ _ _ _).symm.trans hf
  refine lv_aload_n S.1 S.2.1 dX4_verdict_0 rfl (lv_at hl 0 rfl) ?_
  refine lv_iconst (v := 1) S.1 S.2.1 dX4_verdict_1 (by decide) ?_
  refine lv_iload_n S.1 S.2.1 dX4_verdict_2 rfl (lv_at hl 1 rfl) ?_
  refine lv_ishl S.1 S.2.1 dX4_verdict_3 ?_
  obtain ⟨r2, hg1, hf⟩ := x_b1E hf
  refine x_cA (As := [.int (x_shl 1 p1)]) (rest := []) (st' := [.int r2]) (ws' := (wX4 cI cC cZ h a F G)) S I (tX4_closure l D cI cC cZ h a F G (x_shl 1 p1) r2 hg1) (cwV 1 S.2.2.2.2 gX4_verdict_X4_closure rfl rfl rfl (by decide +kernel) ⟨Nat.le_of_ble_eq_true rfl, Nat.le_of_ble_eq_true rfl⟩) 0 3 rfl rfl rfl rfl hl rfl (Nat.le_of_ble_eq_true rfl) ⟨Nat.zero_le _, Nat.zero_le _⟩ rfl dX4_verdict_4 (fun H locs I => ?_)
  refine lv_iload_n S.1 S.2.1 dX4_verdict_7 rfl (lv_at hl 2 rfl) ?_
  obtain ⟨r4, hg3, hf⟩ := x_b1E hf
  refine x_c0 (As := [.int r2, .int p2]) (rest := []) (st' := [.int r4]) S I rfl (tX4_contains l D cI cC cZ r2 p2 r4 hg3) (va_cwS 2 S.2.2.2.2 gX4_verdict_X4_contains rfl rfl rfl (by decide +kernel) ⟨Nat.le_of_ble_eq_true rfl, Nat.le_of_ble_eq_true rfl⟩) hl rfl (Nat.le_of_ble_eq_true rfl) ⟨Nat.zero_le _, Nat.zero_le _⟩ rfl dX4_verdict_8 (fun H locs I => ?_)
  refine lv_if_eq (tgt := 16) S.1 S.2.1 dX4_verdict_11 (by decide) (fun c5 => ?_) (fun c5 => ?_)
  · replace hf := x_ifT hf c5
    refine lv_iconst (v := 0) S.1 S.2.1 dX4_verdict_16 (by decide) ?_
    refine lv_istore_n (lv' := [(3, .int 0), (0, .ref h), (1, .int p1), (2, .int p2)]) S.1 S.2.1 dX4_verdict_17 rfl hl (by decide) rfl (fun ls hl => ?_)
    have hl18 : ∀ (n18 : Nat), ∀ (v6 : Int32) (H : Heap) (locs : List Loc) (ls : Array Slot), (fX4_verdict_l18 F G p1 p2 n18) v6 = some res → xI D A s (wX4 cI cC cZ h a F G) (xT cI cC cZ) H locs → lv_has ls 4 [(3, .int v6), (0, .ref h), (1, .int p1), (2, .int p2)] → W p l e (headSpec wsX4_verdict rmX4_verdict).room s m args below meth c H locs 0 0 Q (F0 m 18 ls []) := by
      intro n18
      induction n18 with
      | zero =>
        intro v6 H locs ls hf I hl
        cases (fX4_verdict_l18_z _ _ _ _ _).symm.trans hf
      | succ n18 ih18 =>
        intro v6 H locs ls hf I hl
        replace hf := (fX4_verdict_l18_e _ _ _ _ _ _).symm.trans hf
        refine lv_iload_n S.1 S.2.1 dX4_verdict_18 rfl (lv_at hl 0 rfl) ?_
        refine lv_aload_n S.1 S.2.1 dX4_verdict_19 rfl (lv_at hl 1 rfl) ?_
        refine x_get (C := RX4) (T := TX4) (N := 9) (ci := 3) (v := .int (F 8)) S kX4 rfl I 0 8 rfl (by decide) (by decide +kernel) rfl dX4_verdict_20 ?_
        refine lv_icmp_ge (tgt := 60) S.1 S.2.1 dX4_verdict_23 (by decide) (fun c7 => ?_) (fun c7 => ?_)
        · replace hf := x_ifT hf c7
          refine lv_iconst (v := 0) S.1 S.2.1 dX4_verdict_60 (by decide) ?_
          exact x_ri E rfl rfl hf rfl I rfl dX4_verdict_61
        · replace hf := x_ifF hf c7
          refine lv_aload_n S.1 S.2.1 dX4_verdict_26 rfl (lv_at hl 1 rfl) ?_
          refine x_get (C := RX4) (T := TX4) (N := 9) (ci := 3) (v := .ref (a 4)) S kX4 rfl I 0 4 rfl (by decide) (by decide +kernel) rfl dX4_verdict_27 ?_
          refine lv_iload_n S.1 S.2.1 dX4_verdict_30 rfl (lv_at hl 0 rfl) ?_
          obtain ⟨hi8, hf⟩ := x_ldE hf
          refine x_iald (f := (G 4)) S I 5 0 rfl rfl hi8 dX4_verdict_31 ?_
          refine lv_iload_n S.1 S.2.1 dX4_verdict_32 rfl (lv_at hl 2 rfl) ?_
          obtain ⟨r10, hg9, hf⟩ := x_b1E hf
          refine x_c0 (As := [.int ((G 4) v6.toNatClampNeg), .int p1]) (rest := []) (st' := [.int r10]) S I rfl (tX4_contains l D cI cC cZ ((G 4) v6.toNatClampNeg) p1 r10 hg9) (va_cwS 2 S.2.2.2.2 gX4_verdict_X4_contains rfl rfl rfl (by decide +kernel) ⟨Nat.le_of_ble_eq_true rfl, Nat.le_of_ble_eq_true rfl⟩) hl rfl (Nat.le_of_ble_eq_true rfl) ⟨Nat.zero_le _, Nat.zero_le _⟩ rfl dX4_verdict_33 (fun H locs I => ?_)
          have hj54 : ∀  (H : Heap) (locs : List Loc) (ls : Array Slot), (fX4_verdict_j54 (fX4_verdict_l18 F G p1 p2 n18) v6) = some res → xI D A s (wX4 cI cC cZ h a F G) (xT cI cC cZ) H locs → lv_has ls 4 [(3, .int v6), (0, .ref h), (1, .int p1), (2, .int p2)] → W p l e (headSpec wsX4_verdict rmX4_verdict).room s m args below meth c H locs 0 0 Q (F0 m 54 ls []) := by
            intro  H locs ls hf I hl
            replace hf := (fX4_verdict_j54_e _ _).symm.trans hf
            refine lv_iinc (v := (v6 + 1)) (lv' := [(3, .int (v6 + 1)), (0, .ref h), (1, .int p1), (2, .int p2)]) S.1 S.2.1 dX4_verdict_54 hl (k := 0) rfl rfl (by decide) rfl (fun ls hl => ?_)
            refine lv_goto (tgt := 18) S.1 S.2.1 dX4_verdict_57 (by decide) ?_
            exact ih18 (v6 + 1) _ _ _ hf I (lv_sub hl [0, 1, 2, 3] rfl)
          refine lv_if_eq (tgt := 54) S.1 S.2.1 dX4_verdict_36 (by decide) (fun c11 => ?_) (fun c11 => ?_)
          · replace hf := x_ifT hf c11
            exact hj54 _ _ _ hf I (lv_sub hl [0, 1, 2, 3] rfl)
          · replace hf := x_ifF hf c11
            refine lv_aload_n S.1 S.2.1 dX4_verdict_39 rfl (lv_at hl 1 rfl) ?_
            refine x_get (C := RX4) (T := TX4) (N := 9) (ci := 3) (v := .ref (a 4)) S kX4 rfl I 0 4 rfl (by decide) (by decide +kernel) rfl dX4_verdict_40 ?_
            refine lv_iload_n S.1 S.2.1 dX4_verdict_43 rfl (lv_at hl 0 rfl) ?_
            obtain ⟨hi12, hf⟩ := x_ldE hf
            refine x_iald (f := (G 4)) S I 5 0 rfl rfl hi12 dX4_verdict_44 ?_
            refine lv_iload_n S.1 S.2.1 dX4_verdict_45 rfl (lv_at hl 3 rfl) ?_
            obtain ⟨r14, hg13, hf⟩ := x_b1E hf
            refine x_c0 (As := [.int ((G 4) v6.toNatClampNeg), .int p2]) (rest := []) (st' := [.int r14]) S I rfl (tX4_contains l D cI cC cZ ((G 4) v6.toNatClampNeg) p2 r14 hg13) (va_cwS 2 S.2.2.2.2 gX4_verdict_X4_contains rfl rfl rfl (by decide +kernel) ⟨Nat.le_of_ble_eq_true rfl, Nat.le_of_ble_eq_true rfl⟩) hl rfl (Nat.le_of_ble_eq_true rfl) ⟨Nat.zero_le _, Nat.zero_le _⟩ rfl dX4_verdict_46 (fun H locs I => ?_)
            refine lv_if_ne (tgt := 54) S.1 S.2.1 dX4_verdict_49 (by decide) (fun c15 => ?_) (fun c15 => ?_)
            · replace hf := x_ifF hf c15
              exact hj54 _ _ _ hf I (lv_sub hl [0, 1, 2, 3] rfl)
            · replace hf := x_ifT hf c15
              refine lv_iconst (v := (-1)) S.1 S.2.1 dX4_verdict_52 (by decide) ?_
              exact x_ri E rfl rfl hf rfl I rfl dX4_verdict_53
    exact hl18 4096 0 _ _ _ hf I (lv_sub hl [0, 1, 2, 3] rfl)
  · replace hf := x_ifF hf c5
    refine lv_iconst (v := 1) S.1 S.2.1 dX4_verdict_14 (by decide) ?_
    exact x_ri E rfl rfl hf rfl I rfl dX4_verdict_15
set_option maxHeartbeats 4000000 in
set_option maxRecDepth 100000 in
theorem tX4_openPairs (l : Launch) (D : va_G) (cI cC cZ : ClassId) (h : Nat) (a : Nat → Nat) (F : xF) (G : xG) (res : Int32) (hf : fX4_openPairs F G = some res) : xC l yX4_openPairs wsX4_openPairs rmX4_openPairs D [.ref h] (wX4 cI cC cZ h a F G) (fun _ => (wX4 cI cC cZ h a F G)) (xT cI cC cZ) (fun t => some (.int t)) res := by
  have kX4 : ∀ w ∈ u_ws RX4 TX4 9, w ∈ wsX4_openPairs := by decide +kernel
  refine x_of (cc := cX4_openPairs) (maxL := 4) (ret := (some .int)) (by decide) rfl (Nat.le_of_ble_eq_true rfl) ?_
  intro p e s m args below meth c A Q ls S I E hl
  replace hl : lv_has ls 4 [(0, .ref h)] := hl
  replace hf := (fX4_openPairs_e _ _).symm.trans hf
  refine lv_iconst (v := 0) S.1 S.2.1 dX4_openPairs_0 (by decide) ?_
  refine lv_istore_n (lv' := [(1, .int 0), (0, .ref h)]) S.1 S.2.1 dX4_openPairs_1 rfl hl (by decide) rfl (fun ls hl => ?_)
  refine lv_iconst (v := 0) S.1 S.2.1 dX4_openPairs_2 (by decide) ?_
  refine lv_istore_n (lv' := [(2, .int 0), (1, .int 0), (0, .ref h)]) S.1 S.2.1 dX4_openPairs_3 rfl hl (by decide) rfl (fun ls hl => ?_)
  have hl4 : ∀ (n4 : Nat), ∀ (v1 : Int32) (v2 : Int32) (H : Heap) (locs : List Loc) (ls : Array Slot), (fX4_openPairs_l4 F G n4) v1 v2 = some res → xI D A s (wX4 cI cC cZ h a F G) (xT cI cC cZ) H locs → lv_has ls 4 [(2, .int v2), (1, .int v1), (0, .ref h)] → W p l e (headSpec wsX4_openPairs rmX4_openPairs).room s m args below meth c H locs 0 0 Q (F0 m 4 ls []) := by
    intro n4
    induction n4 with
    | zero =>
      intro v1 v2 H locs ls hf I hl
      cases (fX4_openPairs_l4_z _ _ _ _).symm.trans hf
    | succ n4 ih4 =>
      intro v1 v2 H locs ls hf I hl
      replace hf := (fX4_openPairs_l4_e _ _ _ _ _).symm.trans hf
      refine lv_iload_n S.1 S.2.1 dX4_openPairs_4 rfl (lv_at hl 0 rfl) ?_
      refine lv_aload_n S.1 S.2.1 dX4_openPairs_5 rfl (lv_at hl 2 rfl) ?_
      refine x_get (C := RX4) (T := TX4) (N := 9) (ci := 3) (v := .int (F 6)) S kX4 rfl I 0 6 rfl (by decide) (by decide +kernel) rfl dX4_openPairs_6 ?_
      refine lv_icmp_ge (tgt := 51) S.1 S.2.1 dX4_openPairs_9 (by decide) (fun c3 => ?_) (fun c3 => ?_)
      · replace hf := x_ifT hf c3
        refine lv_iload_n S.1 S.2.1 dX4_openPairs_51 rfl (lv_at hl 1 rfl) ?_
        exact x_ri E rfl rfl hf rfl I rfl dX4_openPairs_52
      · replace hf := x_ifF hf c3
        refine lv_iconst (v := 0) S.1 S.2.1 dX4_openPairs_12 (by decide) ?_
        refine lv_istore_n (lv' := [(3, .int 0), (2, .int v2), (1, .int v1), (0, .ref h)]) S.1 S.2.1 dX4_openPairs_13 rfl hl (by decide) rfl (fun ls hl => ?_)
        have hx45 : ∀ (v4 : Int32) (H : Heap) (locs : List Loc) (ls : Array Slot), (fX4_openPairs_x45 (fX4_openPairs_l4 F G n4) v2) v4 = some res → xI D A s (wX4 cI cC cZ h a F G) (xT cI cC cZ) H locs → lv_has ls 4 [(2, .int v2), (1, .int v4), (0, .ref h)] → W p l e (headSpec wsX4_openPairs rmX4_openPairs).room s m args below meth c H locs 0 0 Q (F0 m 45 ls []) := by
          intro v4 H locs ls hf I hl
          replace hf := (fX4_openPairs_x45_e _ _ _).symm.trans hf
          refine lv_iinc (v := (v2 + 1)) (lv' := [(2, .int (v2 + 1)), (1, .int v4), (0, .ref h)]) S.1 S.2.1 dX4_openPairs_45 hl (k := 0) rfl rfl (by decide) rfl (fun ls hl => ?_)
          refine lv_goto (tgt := 4) S.1 S.2.1 dX4_openPairs_48 (by decide) ?_
          exact ih4 v4 (v2 + 1) _ _ _ hf I (lv_sub hl [0, 1, 2] rfl)
        have hl14 : ∀ (n14 : Nat), ∀ (v5 : Int32) (v6 : Int32) (H : Heap) (locs : List Loc) (ls : Array Slot), (fX4_openPairs_l14 (fX4_openPairs_l4 F G n4) F G v2 n14) v5 v6 = some res → xI D A s (wX4 cI cC cZ h a F G) (xT cI cC cZ) H locs → lv_has ls 4 [(3, .int v6), (2, .int v2), (1, .int v5), (0, .ref h)] → W p l e (headSpec wsX4_openPairs rmX4_openPairs).room s m args below meth c H locs 0 0 Q (F0 m 14 ls []) := by
          intro n14
          induction n14 with
          | zero =>
            intro v5 v6 H locs ls hf I hl
            cases (fX4_openPairs_l14_z _ _ _ _ _ _).symm.trans hf
          | succ n14 ih14 =>
            intro v5 v6 H locs ls hf I hl
            replace hf := (fX4_openPairs_l14_e _ _ _ _ _ _ _).symm.trans hf
            refine lv_iload_n S.1 S.2.1 dX4_openPairs_14 rfl (lv_at hl 0 rfl) ?_
            refine lv_aload_n S.1 S.2.1 dX4_openPairs_15 rfl (lv_at hl 3 rfl) ?_
            refine x_get (C := RX4) (T := TX4) (N := 9) (ci := 3) (v := .int (F 6)) S kX4 rfl I 0 6 rfl (by decide) (by decide +kernel) rfl dX4_openPairs_16 ?_
            refine lv_icmp_ge (tgt := 45) S.1 S.2.1 dX4_openPairs_19 (by decide) (fun c7 => ?_) (fun c7 => ?_)
            · replace hf := x_ifT hf c7
              exact hx45 v5 _ _ _ hf I (lv_sub hl [1, 2, 3] rfl)
            · replace hf := x_ifF hf c7
              refine lv_iload_n S.1 S.2.1 dX4_openPairs_22 rfl (lv_at hl 1 rfl) ?_
              refine lv_iload_n S.1 S.2.1 dX4_openPairs_23 rfl (lv_at hl 0 rfl) ?_
              have hj39 : ∀ (v8 : Int32) (H : Heap) (locs : List Loc) (ls : Array Slot), (fX4_openPairs_j39 (fX4_openPairs_l14 (fX4_openPairs_l4 F G n4) F G v2 n14) v6) v8 = some res → xI D A s (wX4 cI cC cZ h a F G) (xT cI cC cZ) H locs → lv_has ls 4 [(3, .int v6), (2, .int v2), (1, .int v8), (0, .ref h)] → W p l e (headSpec wsX4_openPairs rmX4_openPairs).room s m args below meth c H locs 0 0 Q (F0 m 39 ls []) := by
                intro v8 H locs ls hf I hl
                replace hf := (fX4_openPairs_j39_e _ _ _).symm.trans hf
                refine lv_iinc (v := (v6 + 1)) (lv' := [(3, .int (v6 + 1)), (2, .int v2), (1, .int v8), (0, .ref h)]) S.1 S.2.1 dX4_openPairs_39 hl (k := 0) rfl rfl (by decide) rfl (fun ls hl => ?_)
                refine lv_goto (tgt := 14) S.1 S.2.1 dX4_openPairs_42 (by decide) ?_
                exact ih14 v8 (v6 + 1) _ _ _ hf I (lv_sub hl [0, 1, 2, 3] rfl)
              refine lv_icmp_eq (tgt := 39) S.1 S.2.1 dX4_openPairs_24 (by decide) (fun c9 => ?_) (fun c9 => ?_)
              · replace hf := x_ifT hf c9
                exact hj39 v5 _ _ _ hf I (lv_sub hl [0, 1, 2, 3] rfl)
              · replace hf := x_ifF hf c9
                refine lv_aload_n S.1 S.2.1 dX4_openPairs_27 rfl (lv_at hl 3 rfl) ?_
                refine lv_iload_n S.1 S.2.1 dX4_openPairs_28 rfl (lv_at hl 1 rfl) ?_
                refine lv_iload_n S.1 S.2.1 dX4_openPairs_29 rfl (lv_at hl 0 rfl) ?_
                obtain ⟨r11, hg10, hf⟩ := x_b1E hf
                refine x_cA (As := [.int v2, .int v6]) (rest := []) (st' := [.int r11]) (ws' := (wX4 cI cC cZ h a F G)) S I (tX4_verdict l D cI cC cZ h a F G v2 v6 r11 hg10) (cwV 2 S.2.2.2.2 gX4_openPairs_X4_verdict rfl rfl rfl (by decide +kernel) ⟨Nat.le_of_ble_eq_true rfl, Nat.le_of_ble_eq_true rfl⟩) 0 3 rfl rfl rfl rfl hl rfl (Nat.le_of_ble_eq_true rfl) ⟨Nat.zero_le _, Nat.zero_le _⟩ rfl dX4_openPairs_30 (fun H locs I => ?_)
                refine lv_if_ne (tgt := 39) S.1 S.2.1 dX4_openPairs_33 (by decide) (fun c12 => ?_) (fun c12 => ?_)
                · replace hf := x_ifF hf c12
                  exact hj39 v5 _ _ _ hf I (lv_sub hl [0, 1, 2, 3] rfl)
                · replace hf := x_ifT hf c12
                  refine lv_iinc (v := (v5 + 1)) (lv' := [(1, .int (v5 + 1)), (3, .int v6), (2, .int v2), (0, .ref h)]) S.1 S.2.1 dX4_openPairs_36 hl (k := 2) rfl rfl (by decide) rfl (fun ls hl => ?_)
                  exact hj39 (v5 + 1) _ _ _ hf I (lv_sub hl [1, 2, 0, 3] rfl)
        exact hl14 4096 v1 0 _ _ _ hf I (lv_sub hl [0, 1, 2, 3] rfl)
  exact hl4 4096 0 0 _ _ _ hf I (lv_sub hl [0, 1, 2] rfl)
set_option maxHeartbeats 4000000 in
set_option maxRecDepth 100000 in
theorem tX4_hasPrinciple (l : Launch) (D : va_G) (cI cC cZ : ClassId) (h : Nat) (a : Nat → Nat) (F : xF) (G : xG) (p1 : Int32) (res : Int32) (hf : fX4_hasPrinciple F p1 = some res) : xC l yX4_hasPrinciple wsX4_hasPrinciple rmX4_hasPrinciple D [.ref h, .int p1] (wX4 cI cC cZ h a F G) (fun _ => (wX4 cI cC cZ h a F G)) (xT cI cC cZ) (fun t => some (.int t)) res := by
  have kX4 : ∀ w ∈ u_ws RX4 TX4 9, w ∈ wsX4_hasPrinciple := by decide +kernel
  refine x_of (cc := cX4_hasPrinciple) (maxL := 2) (ret := (some .boolean)) (by decide) rfl (Nat.le_of_ble_eq_true rfl) ?_
  intro p e s m args below meth c A Q ls S I E hl
  replace hl : lv_has ls 2 [(0, .ref h), (1, .int p1)] := hl
  replace hf := (fX4_hasPrinciple_e _ _).symm.trans hf
  refine lv_iload_n S.1 S.2.1 dX4_hasPrinciple_0 rfl (lv_at hl 1 rfl) ?_
  refine lv_aload_n S.1 S.2.1 dX4_hasPrinciple_1 rfl (lv_at hl 0 rfl) ?_
  refine x_get (C := RX4) (T := TX4) (N := 9) (ci := 3) (v := .int (F 6)) S kX4 rfl I 0 6 rfl (by decide) (by decide +kernel) rfl dX4_hasPrinciple_2 ?_
  obtain ⟨r2, hg1, hf⟩ := x_b1E hf
  refine x_c0N (host := "ReversalCourt") (n := 2) (As := [.int p1, .int (F 6)]) (rest := []) (st' := [.int r2]) S I rfl (tX5_isBelow l D cI cC cZ p1 (F 6) r2 hg1) gX4_hasPrinciple_X5_isBelow_n40 rfl rfl rfl (by decide +kernel) (by decide +kernel) (by decide +kernel) (by decide +kernel) ⟨Nat.le_of_ble_eq_true rfl, Nat.le_of_ble_eq_true rfl⟩ hl rfl (Nat.le_of_ble_eq_true rfl) ⟨Nat.zero_le _, Nat.zero_le _⟩ rfl dX4_hasPrinciple_5 (fun H locs I => ?_)
  exact x_ri E rfl rfl hf rfl I rfl dX4_hasPrinciple_8
set_option maxHeartbeats 4000000 in
set_option maxRecDepth 100000 in
theorem tX4_isSet (l : Launch) (D : va_G) (cI cC cZ : ClassId) (h : Nat) (a : Nat → Nat) (F : xF) (G : xG) (p1 : Int32) (res : Int32) (hf : fX4_isSet F p1 = some res) : xC l yX4_isSet wsX4_isSet rmX4_isSet D [.ref h, .int p1] (wX4 cI cC cZ h a F G) (fun _ => (wX4 cI cC cZ h a F G)) (xT cI cC cZ) (fun t => some (.int t)) res := by
  have kX4 : ∀ w ∈ u_ws RX4 TX4 9, w ∈ wsX4_isSet := by decide +kernel
  refine x_of (cc := cX4_isSet) (maxL := 2) (ret := (some .boolean)) (by decide) rfl (Nat.le_of_ble_eq_true rfl) ?_
  intro p e s m args below meth c A Q ls S I E hl
  replace hl : lv_has ls 2 [(0, .ref h), (1, .int p1)] := hl
  replace hf := (fX4_isSet_e _ _).symm.trans hf
  refine lv_iload_n S.1 S.2.1 dX4_isSet_0 rfl (lv_at hl 1 rfl) ?_
  refine lv_aload_n S.1 S.2.1 dX4_isSet_1 rfl (lv_at hl 0 rfl) ?_
  refine x_get (C := RX4) (T := TX4) (N := 9) (ci := 3) (v := .int (F 6)) S kX4 rfl I 0 6 rfl (by decide) (by decide +kernel) rfl dX4_isSet_2 ?_
  refine lv_iushr (v := (x_ush p1 (F 6))) S.1 S.2.1 dX4_isSet_5 rfl ?_
  refine lv_if_ne (tgt := 13) S.1 S.2.1 dX4_isSet_6 (by decide) (fun c1 => ?_) (fun c1 => ?_)
  · replace hf := x_ifF hf c1
    refine lv_iconst (v := 0) S.1 S.2.1 dX4_isSet_13 (by decide) ?_
    exact x_ri E rfl x_n0 hf rfl I rfl dX4_isSet_14
  · replace hf := x_ifT hf c1
    refine lv_iconst (v := 1) S.1 S.2.1 dX4_isSet_9 (by decide) ?_
    refine lv_goto (tgt := 14) S.1 S.2.1 dX4_isSet_10 (by decide) ?_
    exact x_ri E rfl x_n1 hf rfl I rfl dX4_isSet_14
set_option maxHeartbeats 4000000 in
set_option maxRecDepth 100000 in
theorem tX4_hasAllPrinciples (l : Launch) (D : va_G) (cI cC cZ : ClassId) (h : Nat) (a : Nat → Nat) (F : xF) (G : xG) (res : Int32) (hf : fX4_hasAllPrinciples F = some res) : xC l yX4_hasAllPrinciples wsX4_hasAllPrinciples rmX4_hasAllPrinciples D [.ref h] (wX4 cI cC cZ h a F G) (fun _ => (wX4 cI cC cZ h a F G)) (xT cI cC cZ) (fun t => some (.int t)) res := by
  have kX4 : ∀ w ∈ u_ws RX4 TX4 9, w ∈ wsX4_hasAllPrinciples := by decide +kernel
  refine x_of (cc := cX4_hasAllPrinciples) (maxL := 1) (ret := (some .boolean)) (by decide) rfl (Nat.le_of_ble_eq_true rfl) ?_
  intro p e s m args below meth c A Q ls S I E hl
  replace hl : lv_has ls 1 [(0, .ref h)] := hl
  replace hf := (fX4_hasAllPrinciples_e _).symm.trans hf
  refine lv_aload_n S.1 S.2.1 dX4_hasAllPrinciples_0 rfl (lv_at hl 0 rfl) ?_
  refine x_get (C := RX4) (T := TX4) (N := 9) (ci := 3) (v := .int (F 6)) S kX4 rfl I 0 6 rfl (by decide) (by decide +kernel) rfl dX4_hasAllPrinciples_1 ?_
  refine lv_bipush (v := 10) S.1 S.2.1 dX4_hasAllPrinciples_4 (by decide) ?_
  refine lv_icmp_lt (tgt := 13) S.1 S.2.1 dX4_hasAllPrinciples_6 (by decide) (fun c1 => ?_) (fun c1 => ?_)
  · replace hf := x_ifT hf c1
    refine lv_iconst (v := 0) S.1 S.2.1 dX4_hasAllPrinciples_13 (by decide) ?_
    exact x_ri E rfl x_n0 hf rfl I rfl dX4_hasAllPrinciples_14
  · replace hf := x_ifF hf c1
    refine lv_iconst (v := 1) S.1 S.2.1 dX4_hasAllPrinciples_9 (by decide) ?_
    refine lv_goto (tgt := 14) S.1 S.2.1 dX4_hasAllPrinciples_10 (by decide) ?_
    exact x_ri E rfl x_n1 hf rfl I rfl dX4_hasAllPrinciples_14
set_option maxHeartbeats 4000000 in
set_option maxRecDepth 100000 in
theorem tX4_hasAllRules (l : Launch) (D : va_G) (cI cC cZ : ClassId) (h : Nat) (a : Nat → Nat) (F : xF) (G : xG) (res : Int32) (hf : fX4_hasAllRules F = some res) : xC l yX4_hasAllRules wsX4_hasAllRules rmX4_hasAllRules D [.ref h] (wX4 cI cC cZ h a F G) (fun _ => (wX4 cI cC cZ h a F G)) (xT cI cC cZ) (fun t => some (.int t)) res := by
  have kX4 : ∀ w ∈ u_ws RX4 TX4 9, w ∈ wsX4_hasAllRules := by decide +kernel
  refine x_of (cc := cX4_hasAllRules) (maxL := 1) (ret := (some .boolean)) (by decide) rfl (Nat.le_of_ble_eq_true rfl) ?_
  intro p e s m args below meth c A Q ls S I E hl
  replace hl : lv_has ls 1 [(0, .ref h)] := hl
  replace hf := (fX4_hasAllRules_e _).symm.trans hf
  refine lv_aload_n S.1 S.2.1 dX4_hasAllRules_0 rfl (lv_at hl 0 rfl) ?_
  refine x_get (C := RX4) (T := TX4) (N := 9) (ci := 3) (v := .int (F 7)) S kX4 rfl I 0 7 rfl (by decide) (by decide +kernel) rfl dX4_hasAllRules_1 ?_
  refine lv_bipush (v := 30) S.1 S.2.1 dX4_hasAllRules_4 (by decide) ?_
  refine lv_icmp_lt (tgt := 13) S.1 S.2.1 dX4_hasAllRules_6 (by decide) (fun c1 => ?_) (fun c1 => ?_)
  · replace hf := x_ifT hf c1
    refine lv_iconst (v := 0) S.1 S.2.1 dX4_hasAllRules_13 (by decide) ?_
    exact x_ri E rfl x_n0 hf rfl I rfl dX4_hasAllRules_14
  · replace hf := x_ifF hf c1
    refine lv_iconst (v := 1) S.1 S.2.1 dX4_hasAllRules_9 (by decide) ?_
    refine lv_goto (tgt := 14) S.1 S.2.1 dX4_hasAllRules_10 (by decide) ?_
    exact x_ri E rfl x_n1 hf rfl I rfl dX4_hasAllRules_14
set_option maxHeartbeats 4000000 in
set_option maxRecDepth 100000 in
theorem tX4_hasAllModels (l : Launch) (D : va_G) (cI cC cZ : ClassId) (h : Nat) (a : Nat → Nat) (F : xF) (G : xG) (res : Int32) (hf : fX4_hasAllModels F = some res) : xC l yX4_hasAllModels wsX4_hasAllModels rmX4_hasAllModels D [.ref h] (wX4 cI cC cZ h a F G) (fun _ => (wX4 cI cC cZ h a F G)) (xT cI cC cZ) (fun t => some (.int t)) res := by
  have kX4 : ∀ w ∈ u_ws RX4 TX4 9, w ∈ wsX4_hasAllModels := by decide +kernel
  refine x_of (cc := cX4_hasAllModels) (maxL := 1) (ret := (some .boolean)) (by decide) rfl (Nat.le_of_ble_eq_true rfl) ?_
  intro p e s m args below meth c A Q ls S I E hl
  replace hl : lv_has ls 1 [(0, .ref h)] := hl
  replace hf := (fX4_hasAllModels_e _).symm.trans hf
  refine lv_aload_n S.1 S.2.1 dX4_hasAllModels_0 rfl (lv_at hl 0 rfl) ?_
  refine x_get (C := RX4) (T := TX4) (N := 9) (ci := 3) (v := .int (F 8)) S kX4 rfl I 0 8 rfl (by decide) (by decide +kernel) rfl dX4_hasAllModels_1 ?_
  refine lv_bipush (v := 10) S.1 S.2.1 dX4_hasAllModels_4 (by decide) ?_
  refine lv_icmp_lt (tgt := 13) S.1 S.2.1 dX4_hasAllModels_6 (by decide) (fun c1 => ?_) (fun c1 => ?_)
  · replace hf := x_ifT hf c1
    refine lv_iconst (v := 0) S.1 S.2.1 dX4_hasAllModels_13 (by decide) ?_
    exact x_ri E rfl x_n0 hf rfl I rfl dX4_hasAllModels_14
  · replace hf := x_ifF hf c1
    refine lv_iconst (v := 1) S.1 S.2.1 dX4_hasAllModels_9 (by decide) ?_
    refine lv_goto (tgt := 14) S.1 S.2.1 dX4_hasAllModels_10 (by decide) ?_
    exact x_ri E rfl x_n1 hf rfl I rfl dX4_hasAllModels_14
set_option maxHeartbeats 4000000 in
set_option maxRecDepth 100000 in
theorem tX4_addPrinciple (l : Launch) (D : va_G) (cI cC cZ : ClassId) (h : Nat) (a : Nat → Nat) (F : xF) (G : xG) (p1 p2 : Int32) (res : Int32 × xF × xG) (hf : fX4_addPrinciple F G p1 p2 = some res) : xC l yX4_addPrinciple wsX4_addPrinciple rmX4_addPrinciple D [.ref h, .int p1, .int p2] (wX4 cI cC cZ h a F G) (fun t => (wX4 cI cC cZ h a t.2.1 t.2.2)) (xT cI cC cZ) (fun t => some (.int t.1)) res := by
  have kX4 : ∀ w ∈ u_ws RX4 TX4 9, w ∈ wsX4_addPrinciple := by decide +kernel
  refine x_of (cc := cX4_addPrinciple) (maxL := 4) (ret := (some .int)) (by decide) rfl (Nat.le_of_ble_eq_true rfl) ?_
  intro p e s m args below meth c A Q ls S I E hl
  replace hl : lv_has ls 4 [(0, .ref h), (1, .int p1), (2, .int p2)] := hl
  replace hf := (fX4_addPrinciple_e _ _ _ _).symm.trans hf
  refine lv_aload_n S.1 S.2.1 dX4_addPrinciple_0 rfl (lv_at hl 0 rfl) ?_
  refine x_get (C := RX4) (T := TX4) (N := 9) (ci := 3) (v := .int (F 6)) S kX4 rfl I 0 6 rfl (by decide) (by decide +kernel) rfl dX4_addPrinciple_1 ?_
  refine lv_istore_n (lv' := [(3, .int (F 6)), (0, .ref h), (1, .int p1), (2, .int p2)]) S.1 S.2.1 dX4_addPrinciple_4 rfl hl (by decide) rfl (fun ls hl => ?_)
  refine lv_aload_n S.1 S.2.1 dX4_addPrinciple_5 rfl (lv_at hl 1 rfl) ?_
  refine x_get (C := RX4) (T := TX4) (N := 9) (ci := 3) (v := .ref (a 0)) S kX4 rfl I 0 0 rfl (by decide) (by decide +kernel) rfl dX4_addPrinciple_6 ?_
  refine lv_iload_n S.1 S.2.1 dX4_addPrinciple_9 rfl (lv_at hl 0 rfl) ?_
  refine lv_iload_n S.1 S.2.1 dX4_addPrinciple_10 rfl (lv_at hl 2 rfl) ?_
  obtain ⟨hi1, hf⟩ := x_ldE hf
  refine x_iast (f := (G 0)) (ws' := (wX4 cI cC cZ h a F (va_up G 0 (upd (G 0) (F 6).toNatClampNeg p1)))) S I 1 0 rfl rfl hi1 rfl dX4_addPrinciple_11 (fun H locs I => ?_)
  refine lv_aload_n S.1 S.2.1 dX4_addPrinciple_12 rfl (lv_at hl 1 rfl) ?_
  refine x_get (C := RX4) (T := TX4) (N := 9) (ci := 3) (v := .ref (a 1)) S kX4 rfl I 0 1 rfl (by decide) (by decide +kernel) rfl dX4_addPrinciple_13 ?_
  refine lv_iload_n S.1 S.2.1 dX4_addPrinciple_16 rfl (lv_at hl 0 rfl) ?_
  refine lv_iload_n S.1 S.2.1 dX4_addPrinciple_17 rfl (lv_at hl 3 rfl) ?_
  obtain ⟨hi2, hf⟩ := x_ldE hf
  refine x_iast (f := (G 1)) (ws' := (wX4 cI cC cZ h a F (va_up (va_up G 0 (upd (G 0) (F 6).toNatClampNeg p1)) 1 (upd (G 1) (F 6).toNatClampNeg p2)))) S I 2 0 rfl rfl hi2 rfl dX4_addPrinciple_18 (fun H locs I => ?_)
  refine lv_aload_n S.1 S.2.1 dX4_addPrinciple_19 rfl (lv_at hl 1 rfl) ?_
  refine lv_dup S.1 S.2.1 dX4_addPrinciple_20 rfl ?_
  refine x_get (C := RX4) (T := TX4) (N := 9) (ci := 3) (v := .int (F 6)) S kX4 rfl I 0 6 rfl (by decide) (by decide +kernel) rfl dX4_addPrinciple_21 ?_
  refine lv_iconst (v := 1) S.1 S.2.1 dX4_addPrinciple_24 (by decide) ?_
  refine lv_iadd S.1 S.2.1 dX4_addPrinciple_25 ?_
  refine x_put (C := RX4) (T := TX4) (N := 9) (ci := 3) (ws' := (wX4 cI cC cZ h a (va_up F 6 ((F 6) + 1)) (va_up (va_up G 0 (upd (G 0) (F 6).toNatClampNeg p1)) 1 (upd (G 1) (F 6).toNatClampNeg p2)))) S kX4 tyX4 tyX4_ok nmX4 rfl I 0 6 rfl (by decide) (by decide +kernel) rfl rfl (Nat.le_of_ble_eq_true rfl) rfl dX4_addPrinciple_26 (fun H locs I => ?_)
  refine lv_iload_n S.1 S.2.1 dX4_addPrinciple_29 rfl (lv_at hl 0 rfl) ?_
  exact x_ri E rfl rfl hf rfl I rfl dX4_addPrinciple_30
set_option maxHeartbeats 4000000 in
set_option maxRecDepth 100000 in
theorem tX4_addRule (l : Launch) (D : va_G) (cI cC cZ : ClassId) (h : Nat) (a : Nat → Nat) (F : xF) (G : xG) (p1 p2 : Int32) (res : Int32 × xF × xG) (hf : fX4_addRule F G p1 p2 = some res) : xC l yX4_addRule wsX4_addRule rmX4_addRule D [.ref h, .int p1, .int p2] (wX4 cI cC cZ h a F G) (fun t => (wX4 cI cC cZ h a t.2.1 t.2.2)) (xT cI cC cZ) (fun t => some (.int t.1)) res := by
  have kX4 : ∀ w ∈ u_ws RX4 TX4 9, w ∈ wsX4_addRule := by decide +kernel
  refine x_of (cc := cX4_addRule) (maxL := 4) (ret := (some .int)) (by decide) rfl (Nat.le_of_ble_eq_true rfl) ?_
  intro p e s m args below meth c A Q ls S I E hl
  replace hl : lv_has ls 4 [(0, .ref h), (1, .int p1), (2, .int p2)] := hl
  replace hf := (fX4_addRule_e _ _ _ _).symm.trans hf
  refine lv_aload_n S.1 S.2.1 dX4_addRule_0 rfl (lv_at hl 0 rfl) ?_
  refine x_get (C := RX4) (T := TX4) (N := 9) (ci := 3) (v := .int (F 7)) S kX4 rfl I 0 7 rfl (by decide) (by decide +kernel) rfl dX4_addRule_1 ?_
  refine lv_istore_n (lv' := [(3, .int (F 7)), (0, .ref h), (1, .int p1), (2, .int p2)]) S.1 S.2.1 dX4_addRule_4 rfl hl (by decide) rfl (fun ls hl => ?_)
  refine lv_aload_n S.1 S.2.1 dX4_addRule_5 rfl (lv_at hl 1 rfl) ?_
  refine x_get (C := RX4) (T := TX4) (N := 9) (ci := 3) (v := .ref (a 2)) S kX4 rfl I 0 2 rfl (by decide) (by decide +kernel) rfl dX4_addRule_6 ?_
  refine lv_iload_n S.1 S.2.1 dX4_addRule_9 rfl (lv_at hl 0 rfl) ?_
  refine lv_iload_n S.1 S.2.1 dX4_addRule_10 rfl (lv_at hl 2 rfl) ?_
  obtain ⟨hi1, hf⟩ := x_ldE hf
  refine x_iast (f := (G 2)) (ws' := (wX4 cI cC cZ h a F (va_up G 2 (upd (G 2) (F 7).toNatClampNeg p1)))) S I 3 0 rfl rfl hi1 rfl dX4_addRule_11 (fun H locs I => ?_)
  refine lv_aload_n S.1 S.2.1 dX4_addRule_12 rfl (lv_at hl 1 rfl) ?_
  refine x_get (C := RX4) (T := TX4) (N := 9) (ci := 3) (v := .ref (a 3)) S kX4 rfl I 0 3 rfl (by decide) (by decide +kernel) rfl dX4_addRule_13 ?_
  refine lv_iload_n S.1 S.2.1 dX4_addRule_16 rfl (lv_at hl 0 rfl) ?_
  refine lv_iload_n S.1 S.2.1 dX4_addRule_17 rfl (lv_at hl 3 rfl) ?_
  obtain ⟨hi2, hf⟩ := x_ldE hf
  refine x_iast (f := (G 3)) (ws' := (wX4 cI cC cZ h a F (va_up (va_up G 2 (upd (G 2) (F 7).toNatClampNeg p1)) 3 (upd (G 3) (F 7).toNatClampNeg p2)))) S I 4 0 rfl rfl hi2 rfl dX4_addRule_18 (fun H locs I => ?_)
  refine lv_aload_n S.1 S.2.1 dX4_addRule_19 rfl (lv_at hl 1 rfl) ?_
  refine lv_dup S.1 S.2.1 dX4_addRule_20 rfl ?_
  refine x_get (C := RX4) (T := TX4) (N := 9) (ci := 3) (v := .int (F 7)) S kX4 rfl I 0 7 rfl (by decide) (by decide +kernel) rfl dX4_addRule_21 ?_
  refine lv_iconst (v := 1) S.1 S.2.1 dX4_addRule_24 (by decide) ?_
  refine lv_iadd S.1 S.2.1 dX4_addRule_25 ?_
  refine x_put (C := RX4) (T := TX4) (N := 9) (ci := 3) (ws' := (wX4 cI cC cZ h a (va_up F 7 ((F 7) + 1)) (va_up (va_up G 2 (upd (G 2) (F 7).toNatClampNeg p1)) 3 (upd (G 3) (F 7).toNatClampNeg p2)))) S kX4 tyX4 tyX4_ok nmX4 rfl I 0 7 rfl (by decide) (by decide +kernel) rfl rfl (Nat.le_of_ble_eq_true rfl) rfl dX4_addRule_26 (fun H locs I => ?_)
  refine lv_iload_n S.1 S.2.1 dX4_addRule_29 rfl (lv_at hl 0 rfl) ?_
  exact x_ri E rfl rfl hf rfl I rfl dX4_addRule_30
set_option maxHeartbeats 4000000 in
set_option maxRecDepth 100000 in
theorem tX4_addModel (l : Launch) (D : va_G) (cI cC cZ : ClassId) (h : Nat) (a : Nat → Nat) (F : xF) (G : xG) (p1 : Int32) (res : Int32 × xF × xG) (hf : fX4_addModel F G p1 = some res) : xC l yX4_addModel wsX4_addModel rmX4_addModel D [.ref h, .int p1] (wX4 cI cC cZ h a F G) (fun t => (wX4 cI cC cZ h a t.2.1 t.2.2)) (xT cI cC cZ) (fun t => some (.int t.1)) res := by
  have kX4 : ∀ w ∈ u_ws RX4 TX4 9, w ∈ wsX4_addModel := by decide +kernel
  refine x_of (cc := cX4_addModel) (maxL := 3) (ret := (some .int)) (by decide) rfl (Nat.le_of_ble_eq_true rfl) ?_
  intro p e s m args below meth c A Q ls S I E hl
  replace hl : lv_has ls 3 [(0, .ref h), (1, .int p1)] := hl
  replace hf := (fX4_addModel_e _ _ _).symm.trans hf
  refine lv_aload_n S.1 S.2.1 dX4_addModel_0 rfl (lv_at hl 0 rfl) ?_
  refine x_get (C := RX4) (T := TX4) (N := 9) (ci := 3) (v := .int (F 8)) S kX4 rfl I 0 8 rfl (by decide) (by decide +kernel) rfl dX4_addModel_1 ?_
  refine lv_istore_n (lv' := [(2, .int (F 8)), (0, .ref h), (1, .int p1)]) S.1 S.2.1 dX4_addModel_4 rfl hl (by decide) rfl (fun ls hl => ?_)
  refine lv_aload_n S.1 S.2.1 dX4_addModel_5 rfl (lv_at hl 1 rfl) ?_
  refine x_get (C := RX4) (T := TX4) (N := 9) (ci := 3) (v := .ref (a 4)) S kX4 rfl I 0 4 rfl (by decide) (by decide +kernel) rfl dX4_addModel_6 ?_
  refine lv_iload_n S.1 S.2.1 dX4_addModel_9 rfl (lv_at hl 0 rfl) ?_
  refine lv_iload_n S.1 S.2.1 dX4_addModel_10 rfl (lv_at hl 2 rfl) ?_
  obtain ⟨hi1, hf⟩ := x_ldE hf
  refine x_iast (f := (G 4)) (ws' := (wX4 cI cC cZ h a F (va_up G 4 (upd (G 4) (F 8).toNatClampNeg p1)))) S I 5 0 rfl rfl hi1 rfl dX4_addModel_11 (fun H locs I => ?_)
  refine lv_aload_n S.1 S.2.1 dX4_addModel_12 rfl (lv_at hl 1 rfl) ?_
  refine lv_dup S.1 S.2.1 dX4_addModel_13 rfl ?_
  refine x_get (C := RX4) (T := TX4) (N := 9) (ci := 3) (v := .int (F 8)) S kX4 rfl I 0 8 rfl (by decide) (by decide +kernel) rfl dX4_addModel_14 ?_
  refine lv_iconst (v := 1) S.1 S.2.1 dX4_addModel_17 (by decide) ?_
  refine lv_iadd S.1 S.2.1 dX4_addModel_18 ?_
  refine x_put (C := RX4) (T := TX4) (N := 9) (ci := 3) (ws' := (wX4 cI cC cZ h a (va_up F 8 ((F 8) + 1)) (va_up G 4 (upd (G 4) (F 8).toNatClampNeg p1)))) S kX4 tyX4 tyX4_ok nmX4 rfl I 0 8 rfl (by decide) (by decide +kernel) rfl rfl (Nat.le_of_ble_eq_true rfl) rfl dX4_addModel_19 (fun H locs I => ?_)
  refine lv_iload_n S.1 S.2.1 dX4_addModel_22 rfl (lv_at hl 0 rfl) ?_
  exact x_ri E rfl rfl hf rfl I rfl dX4_addModel_23
set_option maxHeartbeats 4000000 in
set_option maxRecDepth 100000 in
theorem tX4_isBrokenByModel (l : Launch) (D : va_G) (cI cC cZ : ClassId) (h : Nat) (a : Nat → Nat) (F : xF) (G : xG) (p1 p2 : Int32) (res : Int32) (hf : fX4_isBrokenByModel F G p1 p2 = some res) : xC l yX4_isBrokenByModel wsX4_isBrokenByModel rmX4_isBrokenByModel D [.ref h, .int p1, .int p2] (wX4 cI cC cZ h a F G) (fun _ => (wX4 cI cC cZ h a F G)) (xT cI cC cZ) (fun t => some (.int t)) res := by
  have kX4 : ∀ w ∈ u_ws RX4 TX4 9, w ∈ wsX4_isBrokenByModel := by decide +kernel
  refine x_of (cc := cX4_isBrokenByModel) (maxL := 4) (ret := (some .boolean)) (by decide) rfl (Nat.le_of_ble_eq_true rfl) ?_
  intro p e s m args below meth c A Q ls S I E hl
  replace hl : lv_has ls 4 [(0, .ref h), (1, .int p1), (2, .int p2)] := hl
  replace hf := (fX4_isBrokenByModel_e _ _ _ _).symm.trans hf
  refine lv_iconst (v := 0) S.1 S.2.1 dX4_isBrokenByModel_0 (by decide) ?_
  refine lv_istore_n (lv' := [(3, .int 0), (0, .ref h), (1, .int p1), (2, .int p2)]) S.1 S.2.1 dX4_isBrokenByModel_1 rfl hl (by decide) rfl (fun ls hl => ?_)
  have hl2 : ∀ (n2 : Nat), ∀ (v1 : Int32) (H : Heap) (locs : List Loc) (ls : Array Slot), (fX4_isBrokenByModel_l2 F G p1 p2 n2) v1 = some res → xI D A s (wX4 cI cC cZ h a F G) (xT cI cC cZ) H locs → lv_has ls 4 [(3, .int v1), (0, .ref h), (1, .int p1), (2, .int p2)] → W p l e (headSpec wsX4_isBrokenByModel rmX4_isBrokenByModel).room s m args below meth c H locs 0 0 Q (F0 m 2 ls []) := by
    intro n2
    induction n2 with
    | zero =>
      intro v1 H locs ls hf I hl
      cases (fX4_isBrokenByModel_l2_z _ _ _ _ _).symm.trans hf
    | succ n2 ih2 =>
      intro v1 H locs ls hf I hl
      replace hf := (fX4_isBrokenByModel_l2_e _ _ _ _ _ _).symm.trans hf
      refine lv_iload_n S.1 S.2.1 dX4_isBrokenByModel_2 rfl (lv_at hl 0 rfl) ?_
      refine lv_aload_n S.1 S.2.1 dX4_isBrokenByModel_3 rfl (lv_at hl 1 rfl) ?_
      refine x_get (C := RX4) (T := TX4) (N := 9) (ci := 3) (v := .int (F 8)) S kX4 rfl I 0 8 rfl (by decide) (by decide +kernel) rfl dX4_isBrokenByModel_4 ?_
      refine lv_icmp_ge (tgt := 32) S.1 S.2.1 dX4_isBrokenByModel_7 (by decide) (fun c2 => ?_) (fun c2 => ?_)
      · replace hf := x_ifT hf c2
        refine lv_iconst (v := 0) S.1 S.2.1 dX4_isBrokenByModel_32 (by decide) ?_
        exact x_ri E rfl x_n0 hf rfl I rfl dX4_isBrokenByModel_33
      · replace hf := x_ifF hf c2
        refine lv_aload_n S.1 S.2.1 dX4_isBrokenByModel_10 rfl (lv_at hl 1 rfl) ?_
        refine x_get (C := RX4) (T := TX4) (N := 9) (ci := 3) (v := .ref (a 4)) S kX4 rfl I 0 4 rfl (by decide) (by decide +kernel) rfl dX4_isBrokenByModel_11 ?_
        refine lv_iload_n S.1 S.2.1 dX4_isBrokenByModel_14 rfl (lv_at hl 0 rfl) ?_
        obtain ⟨hi3, hf⟩ := x_ldE hf
        refine x_iald (f := (G 4)) S I 5 0 rfl rfl hi3 dX4_isBrokenByModel_15 ?_
        refine lv_iload_n S.1 S.2.1 dX4_isBrokenByModel_16 rfl (lv_at hl 2 rfl) ?_
        refine lv_iload_n S.1 S.2.1 dX4_isBrokenByModel_17 rfl (lv_at hl 3 rfl) ?_
        obtain ⟨r5, hg4, hf⟩ := x_b1E hf
        refine x_c0 (As := [.int ((G 4) v1.toNatClampNeg), .int p1, .int p2]) (rest := []) (st' := [.int r5]) S I rfl (tX4_brings l D cI cC cZ ((G 4) v1.toNatClampNeg) p1 p2 r5 hg4) (va_cwS 3 S.2.2.2.2 gX4_isBrokenByModel_X4_brings rfl rfl rfl (by decide +kernel) ⟨Nat.le_of_ble_eq_true rfl, Nat.le_of_ble_eq_true rfl⟩) hl rfl (Nat.le_of_ble_eq_true rfl) ⟨Nat.zero_le _, Nat.zero_le _⟩ rfl dX4_isBrokenByModel_18 (fun H locs I => ?_)
        refine lv_if_eq (tgt := 26) S.1 S.2.1 dX4_isBrokenByModel_21 (by decide) (fun c6 => ?_) (fun c6 => ?_)
        · replace hf := x_ifT hf c6
          refine lv_iinc (v := (v1 + 1)) (lv' := [(3, .int (v1 + 1)), (0, .ref h), (1, .int p1), (2, .int p2)]) S.1 S.2.1 dX4_isBrokenByModel_26 hl (k := 0) rfl rfl (by decide) rfl (fun ls hl => ?_)
          refine lv_goto (tgt := 2) S.1 S.2.1 dX4_isBrokenByModel_29 (by decide) ?_
          exact ih2 (v1 + 1) _ _ _ hf I (lv_sub hl [0, 1, 2, 3] rfl)
        · replace hf := x_ifF hf c6
          refine lv_iconst (v := 1) S.1 S.2.1 dX4_isBrokenByModel_24 (by decide) ?_
          exact x_ri E rfl x_n1 hf rfl I rfl dX4_isBrokenByModel_25
  exact hl2 4096 0 _ _ _ hf I (lv_sub hl [0, 1, 2, 3] rfl)
set_option maxHeartbeats 4000000 in
set_option maxRecDepth 100000 in
theorem tX4_breaksRule (l : Launch) (D : va_G) (cI cC cZ : ClassId) (h : Nat) (a : Nat → Nat) (F : xF) (G : xG) (p1 : Int32) (res : Int32) (hf : fX4_breaksRule F G p1 = some res) : xC l yX4_breaksRule wsX4_breaksRule rmX4_breaksRule D [.ref h, .int p1] (wX4 cI cC cZ h a F G) (fun _ => (wX4 cI cC cZ h a F G)) (xT cI cC cZ) (fun t => some (.int t)) res := by
  refine x_of (cc := cX4_breaksRule) (maxL := 2) (ret := (some .boolean)) (by decide) rfl (Nat.le_of_ble_eq_true rfl) ?_
  intro p e s m args below meth c A Q ls S I E hl
  replace hl : lv_has ls 2 [(0, .ref h), (1, .int p1)] := hl
  replace hf := (fX4_breaksRule_e _ _ _).symm.trans hf
  refine lv_aload_n S.1 S.2.1 dX4_breaksRule_0 rfl (lv_at hl 0 rfl) ?_
  refine lv_iload_n S.1 S.2.1 dX4_breaksRule_1 rfl (lv_at hl 1 rfl) ?_
  obtain ⟨r2, hg1, hf⟩ := x_b1E hf
  refine x_cA (As := [.int p1]) (rest := []) (st' := [.int r2]) (ws' := (wX4 cI cC cZ h a F G)) S I (tX4_nextRule l D cI cC cZ h a F G p1 r2 hg1) (cwV 1 S.2.2.2.2 gX4_breaksRule_X4_nextRule rfl rfl rfl (by decide +kernel) ⟨Nat.le_of_ble_eq_true rfl, Nat.le_of_ble_eq_true rfl⟩) 0 3 rfl rfl rfl rfl hl rfl (Nat.le_of_ble_eq_true rfl) ⟨Nat.zero_le _, Nat.zero_le _⟩ rfl dX4_breaksRule_2 (fun H locs I => ?_)
  refine lv_iconst (v := (-1)) S.1 S.2.1 dX4_breaksRule_5 (by decide) ?_
  refine lv_icmp_eq (tgt := 13) S.1 S.2.1 dX4_breaksRule_6 (by decide) (fun c3 => ?_) (fun c3 => ?_)
  · replace hf := x_ifT hf c3
    refine lv_iconst (v := 0) S.1 S.2.1 dX4_breaksRule_13 (by decide) ?_
    exact x_ri E rfl x_n0 hf rfl I rfl dX4_breaksRule_14
  · replace hf := x_ifF hf c3
    refine lv_iconst (v := 1) S.1 S.2.1 dX4_breaksRule_9 (by decide) ?_
    refine lv_goto (tgt := 14) S.1 S.2.1 dX4_breaksRule_10 (by decide) ?_
    exact x_ri E rfl x_n1 hf rfl I rfl dX4_breaksRule_14
set_option maxHeartbeats 4000000 in
set_option maxRecDepth 100000 in
theorem tX4_takeSteps (l : Launch) (D : va_G) (cI cC cZ : ClassId) (h : Nat) (a : Nat → Nat) (F : xF) (G : xG) (p1 p2 : Int32) (res : Int32 × xG) (hf : fX4_takeSteps F G p1 p2 = some res) : xC l yX4_takeSteps wsX4_takeSteps rmX4_takeSteps D [.ref h, .int p1, .int p2] (wX4 cI cC cZ h a F G) (fun t => (wX4 cI cC cZ h a F t.2)) (xT cI cC cZ) (fun t => some (.int t.1)) res := by
  have kX4 : ∀ w ∈ u_ws RX4 TX4 9, w ∈ wsX4_takeSteps := by decide +kernel
  refine x_of (cc := cX4_takeSteps) (maxL := 6) (ret := (some .int)) (by decide) rfl (Nat.le_of_ble_eq_true rfl) ?_
  intro p e s m args below meth c A Q ls S I E hl
  replace hl : lv_has ls 6 [(0, .ref h), (1, .int p1), (2, .int p2)] := hl
  replace hf := (fX4_takeSteps_e _ _ _ _).symm.trans hf
  refine lv_iload_n S.1 S.2.1 dX4_takeSteps_0 rfl (lv_at hl 1 rfl) ?_
  refine lv_istore_n (lv' := [(3, .int p1), (0, .ref h), (1, .int p1), (2, .int p2)]) S.1 S.2.1 dX4_takeSteps_1 rfl hl (by decide) rfl (fun ls hl => ?_)
  refine lv_iconst (v := 0) S.1 S.2.1 dX4_takeSteps_2 (by decide) ?_
  refine lv_istore (lv' := [(4, .int 0), (3, .int p1), (0, .ref h), (1, .int p1), (2, .int p2)]) S.1 S.2.1 dX4_takeSteps_3 hl (by decide) rfl (fun ls hl => ?_)
  have hl5 : ∀ (n5 : Nat), ∀ (v1 : Int32) (v2 : Int32) (G3 : xG) (H : Heap) (locs : List Loc) (ls : Array Slot), (fX4_takeSteps_l5 F p2 n5) v1 v2 G3 = some res → xI D A s (wX4 cI cC cZ h a F G3) (xT cI cC cZ) H locs → lv_has ls 6 [(4, .int v2), (3, .int v1), (0, .ref h), (2, .int p2)] → W p l e (headSpec wsX4_takeSteps rmX4_takeSteps).room s m args below meth c H locs 0 0 Q (F0 m 5 ls []) := by
    intro n5
    induction n5 with
    | zero =>
      intro v1 v2 G3 H locs ls hf I hl
      cases (fX4_takeSteps_l5_z _ _ _ _ _).symm.trans hf
    | succ n5 ih5 =>
      intro v1 v2 G3 H locs ls hf I hl
      replace hf := (fX4_takeSteps_l5_e _ _ _ _ _ _).symm.trans hf
      refine lv_iload S.1 S.2.1 dX4_takeSteps_5 (lv_at hl 0 rfl) ?_
      refine lv_bipush (v := 10) S.1 S.2.1 dX4_takeSteps_7 (by decide) ?_
      refine lv_icmp_ge (tgt := 62) S.1 S.2.1 dX4_takeSteps_9 (by decide) (fun c4 => ?_) (fun c4 => ?_)
      · replace hf := x_ifT hf c4
        refine lv_iload S.1 S.2.1 dX4_takeSteps_62 (lv_at hl 0 rfl) ?_
        exact x_ri E rfl rfl hf rfl I rfl dX4_takeSteps_64
      · replace hf := x_ifF hf c4
        refine lv_iload_n S.1 S.2.1 dX4_takeSteps_12 rfl (lv_at hl 1 rfl) ?_
        refine lv_iload_n S.1 S.2.1 dX4_takeSteps_13 rfl (lv_at hl 3 rfl) ?_
        obtain ⟨r6, hg5, hf⟩ := x_b1E hf
        refine x_c0 (As := [.int v1, .int p2]) (rest := []) (st' := [.int r6]) S I rfl (tX4_contains l D cI cC cZ v1 p2 r6 hg5) (va_cwS 2 S.2.2.2.2 gX4_takeSteps_X4_contains rfl rfl rfl (by decide +kernel) ⟨Nat.le_of_ble_eq_true rfl, Nat.le_of_ble_eq_true rfl⟩) hl rfl (Nat.le_of_ble_eq_true rfl) ⟨Nat.zero_le _, Nat.zero_le _⟩ rfl dX4_takeSteps_14 (fun H locs I => ?_)
        refine lv_if_ne (tgt := 62) S.1 S.2.1 dX4_takeSteps_17 (by decide) (fun c7 => ?_) (fun c7 => ?_)
        · replace hf := x_ifF hf c7
          refine lv_iload S.1 S.2.1 dX4_takeSteps_62 (lv_at hl 0 rfl) ?_
          exact x_ri E rfl rfl hf rfl I rfl dX4_takeSteps_64
        · replace hf := x_ifT hf c7
          refine lv_aload_n S.1 S.2.1 dX4_takeSteps_20 rfl (lv_at hl 2 rfl) ?_
          refine lv_iload_n S.1 S.2.1 dX4_takeSteps_21 rfl (lv_at hl 1 rfl) ?_
          obtain ⟨r9, hg8, hf⟩ := x_b1E hf
          refine x_cA (As := [.int v1]) (rest := []) (st' := [.int r9]) (ws' := (wX4 cI cC cZ h a F G3)) S I (tX4_nextRule l D cI cC cZ h a F G3 v1 r9 hg8) (cwV 1 S.2.2.2.2 gX4_takeSteps_X4_nextRule rfl rfl rfl (by decide +kernel) ⟨Nat.le_of_ble_eq_true rfl, Nat.le_of_ble_eq_true rfl⟩) 0 3 rfl rfl rfl rfl hl rfl (Nat.le_of_ble_eq_true rfl) ⟨Nat.zero_le _, Nat.zero_le _⟩ rfl dX4_takeSteps_22 (fun H locs I => ?_)
          refine lv_istore (lv' := [(5, .int r9), (4, .int v2), (3, .int v1), (0, .ref h), (2, .int p2)]) S.1 S.2.1 dX4_takeSteps_25 hl (by decide) rfl (fun ls hl => ?_)
          refine lv_iload S.1 S.2.1 dX4_takeSteps_27 (lv_at hl 0 rfl) ?_
          refine lv_iconst (v := (-1)) S.1 S.2.1 dX4_takeSteps_29 (by decide) ?_
          refine lv_icmp_ne (tgt := 35) S.1 S.2.1 dX4_takeSteps_30 (by decide) (fun c10 => ?_) (fun c10 => ?_)
          · replace hf := x_ifF hf c10
            refine lv_aload_n S.1 S.2.1 dX4_takeSteps_35 rfl (lv_at hl 3 rfl) ?_
            refine x_get (C := RX4) (T := TX4) (N := 9) (ci := 3) (v := .ref (a 5)) S kX4 rfl I 0 5 rfl (by decide) (by decide +kernel) rfl dX4_takeSteps_36 ?_
            refine lv_iload S.1 S.2.1 dX4_takeSteps_39 (lv_at hl 1 rfl) ?_
            refine lv_iload S.1 S.2.1 dX4_takeSteps_41 (lv_at hl 0 rfl) ?_
            obtain ⟨hi11, hf⟩ := x_ldE hf
            refine x_iast (f := (G3 5)) (ws' := (wX4 cI cC cZ h a F (va_up G3 5 (upd (G3 5) v2.toNatClampNeg r9)))) S I 6 0 rfl rfl hi11 rfl dX4_takeSteps_43 (fun H locs I => ?_)
            refine lv_iload_n S.1 S.2.1 dX4_takeSteps_44 rfl (lv_at hl 2 rfl) ?_
            refine lv_iconst (v := 1) S.1 S.2.1 dX4_takeSteps_45 (by decide) ?_
            refine lv_aload_n S.1 S.2.1 dX4_takeSteps_46 rfl (lv_at hl 3 rfl) ?_
            refine x_get (C := RX4) (T := TX4) (N := 9) (ci := 3) (v := .ref (a 3)) S kX4 rfl I 0 3 rfl (by decide) (by decide +kernel) rfl dX4_takeSteps_47 ?_
            refine lv_iload S.1 S.2.1 dX4_takeSteps_50 (lv_at hl 0 rfl) ?_
            obtain ⟨hi12, hf⟩ := x_ldE hf
            refine x_iald (f := (G3 3)) S I 4 0 rfl rfl hi12 dX4_takeSteps_52 ?_
            refine lv_ishl S.1 S.2.1 dX4_takeSteps_53 ?_
            refine lv_ior S.1 S.2.1 dX4_takeSteps_54 ?_
            refine lv_istore_n (lv' := [(3, .int (v1 ||| (x_shl 1 ((G3 3) r9.toNatClampNeg)))), (5, .int r9), (4, .int v2), (0, .ref h), (2, .int p2)]) S.1 S.2.1 dX4_takeSteps_55 rfl hl (by decide) rfl (fun ls hl => ?_)
            refine lv_iinc (v := (v2 + 1)) (lv' := [(4, .int (v2 + 1)), (3, .int (v1 ||| (x_shl 1 ((G3 3) r9.toNatClampNeg)))), (5, .int r9), (0, .ref h), (2, .int p2)]) S.1 S.2.1 dX4_takeSteps_56 hl (k := 2) rfl rfl (by decide) rfl (fun ls hl => ?_)
            refine lv_goto (tgt := 5) S.1 S.2.1 dX4_takeSteps_59 (by decide) ?_
            exact ih5 (v1 ||| (x_shl 1 ((G3 3) r9.toNatClampNeg))) (v2 + 1) (va_up G3 5 (upd (G3 5) v2.toNatClampNeg r9)) _ _ _ hf I (lv_sub hl [0, 1, 3, 4] rfl)
          · replace hf := x_ifT hf c10
            refine lv_iconst (v := (-1)) S.1 S.2.1 dX4_takeSteps_33 (by decide) ?_
            exact x_ri E rfl rfl hf rfl I rfl dX4_takeSteps_34
  exact hl5 4096 p1 0 G _ _ _ hf I (lv_sub hl [0, 1, 2, 4] rfl)
set_option maxHeartbeats 4000000 in
set_option maxRecDepth 100000 in
theorem tX4_neededSteps (l : Launch) (D : va_G) (cI cC cZ : ClassId) (h : Nat) (a : Nat → Nat) (F : xF) (G : xG) (p1 p2 : Int32) (res : Int32) (hf : fX4_neededSteps G p1 p2 = some res) : xC l yX4_neededSteps wsX4_neededSteps rmX4_neededSteps D [.ref h, .int p1, .int p2] (wX4 cI cC cZ h a F G) (fun _ => (wX4 cI cC cZ h a F G)) (xT cI cC cZ) (fun t => some (.int t)) res := by
  have kX4 : ∀ w ∈ u_ws RX4 TX4 9, w ∈ wsX4_neededSteps := by decide +kernel
  refine x_of (cc := cX4_neededSteps) (maxL := 7) (ret := (some .int)) (by decide) rfl (Nat.le_of_ble_eq_true rfl) ?_
  intro p e s m args below meth c A Q ls S I E hl
  replace hl : lv_has ls 7 [(0, .ref h), (1, .int p1), (2, .int p2)] := hl
  replace hf := (fX4_neededSteps_e _ _ _).symm.trans hf
  refine lv_iconst (v := 1) S.1 S.2.1 dX4_neededSteps_0 (by decide) ?_
  refine lv_iload_n S.1 S.2.1 dX4_neededSteps_1 rfl (lv_at hl 1 rfl) ?_
  refine lv_ishl S.1 S.2.1 dX4_neededSteps_2 ?_
  refine lv_istore_n (lv' := [(3, .int (x_shl 1 p1)), (0, .ref h), (1, .int p1), (2, .int p2)]) S.1 S.2.1 dX4_neededSteps_3 rfl hl (by decide) rfl (fun ls hl => ?_)
  refine lv_iconst (v := 0) S.1 S.2.1 dX4_neededSteps_4 (by decide) ?_
  refine lv_istore (lv' := [(4, .int 0), (3, .int (x_shl 1 p1)), (0, .ref h), (1, .int p1), (2, .int p2)]) S.1 S.2.1 dX4_neededSteps_5 hl (by decide) rfl (fun ls hl => ?_)
  refine lv_iload_n S.1 S.2.1 dX4_neededSteps_7 rfl (lv_at hl 4 rfl) ?_
  refine lv_iconst (v := 1) S.1 S.2.1 dX4_neededSteps_8 (by decide) ?_
  refine lv_isub S.1 S.2.1 dX4_neededSteps_9 ?_
  refine lv_istore (lv' := [(5, .int (p2 - 1)), (4, .int 0), (3, .int (x_shl 1 p1)), (0, .ref h), (1, .int p1), (2, .int p2)]) S.1 S.2.1 dX4_neededSteps_10 hl (by decide) rfl (fun ls hl => ?_)
  have hl12 : ∀ (n12 : Nat), ∀ (v1 : Int32) (v2 : Int32) (v3 : Int32) (H : Heap) (locs : List Loc) (ls : Array Slot), (fX4_neededSteps_l12 G n12) v1 v2 v3 = some res → xI D A s (wX4 cI cC cZ h a F G) (xT cI cC cZ) H locs → lv_has ls 7 [(5, .int v3), (4, .int v2), (3, .int v1), (0, .ref h)] → W p l e (headSpec wsX4_neededSteps rmX4_neededSteps).room s m args below meth c H locs 0 0 Q (F0 m 12 ls []) := by
    intro n12
    induction n12 with
    | zero =>
      intro v1 v2 v3 H locs ls hf I hl
      cases (fX4_neededSteps_l12_z _ _ _ _).symm.trans hf
    | succ n12 ih12 =>
      intro v1 v2 v3 H locs ls hf I hl
      replace hf := (fX4_neededSteps_l12_e _ _ _ _ _).symm.trans hf
      refine lv_iload S.1 S.2.1 dX4_neededSteps_12 (lv_at hl 0 rfl) ?_
      refine lv_if_lt (tgt := 65) S.1 S.2.1 dX4_neededSteps_14 (by decide) (fun c4 => ?_) (fun c4 => ?_)
      · replace hf := x_ifT hf c4
        refine lv_iload S.1 S.2.1 dX4_neededSteps_65 (lv_at hl 1 rfl) ?_
        exact x_ri E rfl rfl hf rfl I rfl dX4_neededSteps_67
      · replace hf := x_ifF hf c4
        refine lv_aload_n S.1 S.2.1 dX4_neededSteps_17 rfl (lv_at hl 3 rfl) ?_
        refine x_get (C := RX4) (T := TX4) (N := 9) (ci := 3) (v := .ref (a 5)) S kX4 rfl I 0 5 rfl (by decide) (by decide +kernel) rfl dX4_neededSteps_18 ?_
        refine lv_iload S.1 S.2.1 dX4_neededSteps_21 (lv_at hl 0 rfl) ?_
        obtain ⟨hi5, hf⟩ := x_ldE hf
        refine x_iald (f := (G 5)) S I 6 0 rfl rfl hi5 dX4_neededSteps_23 ?_
        refine lv_istore (lv' := [(6, .int ((G 5) v3.toNatClampNeg)), (5, .int v3), (4, .int v2), (3, .int v1), (0, .ref h)]) S.1 S.2.1 dX4_neededSteps_24 hl (by decide) rfl (fun ls hl => ?_)
        refine lv_iload_n S.1 S.2.1 dX4_neededSteps_26 rfl (lv_at hl 3 rfl) ?_
        refine lv_aload_n S.1 S.2.1 dX4_neededSteps_27 rfl (lv_at hl 4 rfl) ?_
        refine x_get (C := RX4) (T := TX4) (N := 9) (ci := 3) (v := .ref (a 3)) S kX4 rfl I 0 3 rfl (by decide) (by decide +kernel) rfl dX4_neededSteps_28 ?_
        refine lv_iload S.1 S.2.1 dX4_neededSteps_31 (lv_at hl 0 rfl) ?_
        obtain ⟨hi6, hf⟩ := x_ldE hf
        refine x_iald (f := (G 3)) S I 4 0 rfl rfl hi6 dX4_neededSteps_33 ?_
        obtain ⟨r8, hg7, hf⟩ := x_b1E hf
        refine x_c0 (As := [.int v1, .int ((G 3) ((G 5) v3.toNatClampNeg).toNatClampNeg)]) (rest := []) (st' := [.int r8]) S I rfl (tX4_contains l D cI cC cZ v1 ((G 3) ((G 5) v3.toNatClampNeg).toNatClampNeg) r8 hg7) (va_cwS 2 S.2.2.2.2 gX4_neededSteps_X4_contains rfl rfl rfl (by decide +kernel) ⟨Nat.le_of_ble_eq_true rfl, Nat.le_of_ble_eq_true rfl⟩) hl rfl (Nat.le_of_ble_eq_true rfl) ⟨Nat.zero_le _, Nat.zero_le _⟩ rfl dX4_neededSteps_34 (fun H locs I => ?_)
        have hj59 : ∀ (v9 : Int32) (v10 : Int32) (H : Heap) (locs : List Loc) (ls : Array Slot), (fX4_neededSteps_j59 (fX4_neededSteps_l12 G n12) v3) v9 v10 = some res → xI D A s (wX4 cI cC cZ h a F G) (xT cI cC cZ) H locs → lv_has ls 7 [(5, .int v3), (4, .int v10), (3, .int v9), (0, .ref h)] → W p l e (headSpec wsX4_neededSteps rmX4_neededSteps).room s m args below meth c H locs 0 0 Q (F0 m 59 ls []) := by
          intro v9 v10 H locs ls hf I hl
          replace hf := (fX4_neededSteps_j59_e _ _ _ _).symm.trans hf
          refine lv_iinc (v := (v3 + (-1))) (lv' := [(5, .int (v3 + (-1))), (4, .int v10), (3, .int v9), (0, .ref h)]) S.1 S.2.1 dX4_neededSteps_59 hl (k := 0) rfl rfl (by decide) rfl (fun ls hl => ?_)
          refine lv_goto (tgt := 12) S.1 S.2.1 dX4_neededSteps_62 (by decide) ?_
          exact ih12 v9 v10 (v3 + (-1)) _ _ _ hf I (lv_sub hl [0, 1, 2, 3] rfl)
        refine lv_if_eq (tgt := 59) S.1 S.2.1 dX4_neededSteps_37 (by decide) (fun c11 => ?_) (fun c11 => ?_)
        · replace hf := x_ifT hf c11
          exact hj59 v1 v2 _ _ _ hf I (lv_sub hl [1, 2, 3, 4] rfl)
        · replace hf := x_ifF hf c11
          refine lv_iload_n S.1 S.2.1 dX4_neededSteps_40 rfl (lv_at hl 3 rfl) ?_
          refine lv_aload_n S.1 S.2.1 dX4_neededSteps_41 rfl (lv_at hl 4 rfl) ?_
          refine x_get (C := RX4) (T := TX4) (N := 9) (ci := 3) (v := .ref (a 2)) S kX4 rfl I 0 2 rfl (by decide) (by decide +kernel) rfl dX4_neededSteps_42 ?_
          refine lv_iload S.1 S.2.1 dX4_neededSteps_45 (lv_at hl 0 rfl) ?_
          obtain ⟨hi12, hf⟩ := x_ldE hf
          refine x_iald (f := (G 2)) S I 3 0 rfl rfl hi12 dX4_neededSteps_47 ?_
          refine lv_ior S.1 S.2.1 dX4_neededSteps_48 ?_
          refine lv_istore_n (lv' := [(3, .int (v1 ||| ((G 2) ((G 5) v3.toNatClampNeg).toNatClampNeg))), (6, .int ((G 5) v3.toNatClampNeg)), (5, .int v3), (4, .int v2), (0, .ref h)]) S.1 S.2.1 dX4_neededSteps_49 rfl hl (by decide) rfl (fun ls hl => ?_)
          refine lv_iload S.1 S.2.1 dX4_neededSteps_50 (lv_at hl 3 rfl) ?_
          refine lv_iconst (v := 1) S.1 S.2.1 dX4_neededSteps_52 (by decide) ?_
          refine lv_iload S.1 S.2.1 dX4_neededSteps_53 (lv_at hl 2 rfl) ?_
          refine lv_ishl S.1 S.2.1 dX4_neededSteps_55 ?_
          refine lv_ior S.1 S.2.1 dX4_neededSteps_56 ?_
          refine lv_istore (lv' := [(4, .int (v2 ||| (x_shl 1 v3))), (3, .int (v1 ||| ((G 2) ((G 5) v3.toNatClampNeg).toNatClampNeg))), (6, .int ((G 5) v3.toNatClampNeg)), (5, .int v3), (0, .ref h)]) S.1 S.2.1 dX4_neededSteps_57 hl (by decide) rfl (fun ls hl => ?_)
          exact hj59 (v1 ||| ((G 2) ((G 5) v3.toNatClampNeg).toNatClampNeg)) (v2 ||| (x_shl 1 v3)) _ _ _ hf I (lv_sub hl [3, 0, 1, 4] rfl)
  exact hl12 4096 (x_shl 1 p1) 0 (p2 - 1) _ _ _ hf I (lv_sub hl [0, 1, 2, 3] rfl)
set_option maxHeartbeats 4000000 in
set_option maxRecDepth 100000 in
theorem tX4_neededStep (l : Launch) (D : va_G) (cI cC cZ : ClassId) (h : Nat) (a : Nat → Nat) (F : xF) (G : xG) (p1 p2 : Int32) (res : Int32) (hf : fX4_neededStep G p1 p2 = some res) : xC l yX4_neededStep wsX4_neededStep rmX4_neededStep D [.ref h, .int p1, .int p2] (wX4 cI cC cZ h a F G) (fun _ => (wX4 cI cC cZ h a F G)) (xT cI cC cZ) (fun t => some (.int t)) res := by
  have kX4 : ∀ w ∈ u_ws RX4 TX4 9, w ∈ wsX4_neededStep := by decide +kernel
  refine x_of (cc := cX4_neededStep) (maxL := 5) (ret := (some .int)) (by decide) rfl (Nat.le_of_ble_eq_true rfl) ?_
  intro p e s m args below meth c A Q ls S I E hl
  replace hl : lv_has ls 5 [(0, .ref h), (1, .int p1), (2, .int p2)] := hl
  replace hf := (fX4_neededStep_e _ _ _).symm.trans hf
  refine lv_iconst (v := 0) S.1 S.2.1 dX4_neededStep_0 (by decide) ?_
  refine lv_istore_n (lv' := [(3, .int 0), (0, .ref h), (1, .int p1), (2, .int p2)]) S.1 S.2.1 dX4_neededStep_1 rfl hl (by decide) rfl (fun ls hl => ?_)
  refine lv_iconst (v := 0) S.1 S.2.1 dX4_neededStep_2 (by decide) ?_
  refine lv_istore (lv' := [(4, .int 0), (3, .int 0), (0, .ref h), (1, .int p1), (2, .int p2)]) S.1 S.2.1 dX4_neededStep_3 hl (by decide) rfl (fun ls hl => ?_)
  have hx26 : ∀ (v1 : Int32) (H : Heap) (locs : List Loc) (ls : Array Slot), (fX4_neededStep_x26 G) v1 = some res → xI D A s (wX4 cI cC cZ h a F G) (xT cI cC cZ) H locs → lv_has ls 5 [(4, .int v1), (0, .ref h)] → W p l e (headSpec wsX4_neededStep rmX4_neededStep).room s m args below meth c H locs 0 0 Q (F0 m 26 ls []) := by
    intro v1 H locs ls hf I hl
    replace hf := (fX4_neededStep_x26_e _ _).symm.trans hf
    refine lv_aload_n S.1 S.2.1 dX4_neededStep_26 rfl (lv_at hl 1 rfl) ?_
    refine x_get (C := RX4) (T := TX4) (N := 9) (ci := 3) (v := .ref (a 5)) S kX4 rfl I 0 5 rfl (by decide) (by decide +kernel) rfl dX4_neededStep_27 ?_
    refine lv_iload S.1 S.2.1 dX4_neededStep_30 (lv_at hl 0 rfl) ?_
    obtain ⟨hi2, hf⟩ := x_ldE hf
    refine x_iald (f := (G 5)) S I 6 0 rfl rfl hi2 dX4_neededStep_32 ?_
    exact x_ri E rfl rfl hf rfl I rfl dX4_neededStep_33
  have hl5 : ∀ (n5 : Nat), ∀ (v3 : Int32) (v4 : Int32) (H : Heap) (locs : List Loc) (ls : Array Slot), (fX4_neededStep_l5 G p1 p2 n5) v3 v4 = some res → xI D A s (wX4 cI cC cZ h a F G) (xT cI cC cZ) H locs → lv_has ls 5 [(4, .int v4), (3, .int v3), (0, .ref h), (1, .int p1), (2, .int p2)] → W p l e (headSpec wsX4_neededStep rmX4_neededStep).room s m args below meth c H locs 0 0 Q (F0 m 5 ls []) := by
    intro n5
    induction n5 with
    | zero =>
      intro v3 v4 H locs ls hf I hl
      cases (fX4_neededStep_l5_z _ _ _ _ _).symm.trans hf
    | succ n5 ih5 =>
      intro v3 v4 H locs ls hf I hl
      replace hf := (fX4_neededStep_l5_e _ _ _ _ _ _).symm.trans hf
      refine lv_iload S.1 S.2.1 dX4_neededStep_5 (lv_at hl 0 rfl) ?_
      refine lv_bipush (v := 10) S.1 S.2.1 dX4_neededStep_7 (by decide) ?_
      refine lv_icmp_ge (tgt := 43) S.1 S.2.1 dX4_neededStep_9 (by decide) (fun c5 => ?_) (fun c5 => ?_)
      · replace hf := x_ifT hf c5
        refine lv_iconst (v := (-1)) S.1 S.2.1 dX4_neededStep_43 (by decide) ?_
        exact x_ri E rfl rfl hf rfl I rfl dX4_neededStep_44
      · replace hf := x_ifF hf c5
        refine lv_iload_n S.1 S.2.1 dX4_neededStep_12 rfl (lv_at hl 3 rfl) ?_
        refine lv_iload S.1 S.2.1 dX4_neededStep_13 (lv_at hl 0 rfl) ?_
        obtain ⟨r7, hg6, hf⟩ := x_b1E hf
        refine x_c0 (As := [.int p1, .int v4]) (rest := []) (st' := [.int r7]) S I rfl (tX4_contains l D cI cC cZ p1 v4 r7 hg6) (va_cwS 2 S.2.2.2.2 gX4_neededStep_X4_contains rfl rfl rfl (by decide +kernel) ⟨Nat.le_of_ble_eq_true rfl, Nat.le_of_ble_eq_true rfl⟩) hl rfl (Nat.le_of_ble_eq_true rfl) ⟨Nat.zero_le _, Nat.zero_le _⟩ rfl dX4_neededStep_15 (fun H locs I => ?_)
        have hj37 : ∀ (v8 : Int32) (H : Heap) (locs : List Loc) (ls : Array Slot), (fX4_neededStep_j37 (fX4_neededStep_l5 G p1 p2 n5) v4) v8 = some res → xI D A s (wX4 cI cC cZ h a F G) (xT cI cC cZ) H locs → lv_has ls 5 [(4, .int v4), (3, .int v8), (0, .ref h), (1, .int p1), (2, .int p2)] → W p l e (headSpec wsX4_neededStep rmX4_neededStep).room s m args below meth c H locs 0 0 Q (F0 m 37 ls []) := by
          intro v8 H locs ls hf I hl
          replace hf := (fX4_neededStep_j37_e _ _ _).symm.trans hf
          refine lv_iinc (v := (v4 + 1)) (lv' := [(4, .int (v4 + 1)), (3, .int v8), (0, .ref h), (1, .int p1), (2, .int p2)]) S.1 S.2.1 dX4_neededStep_37 hl (k := 0) rfl rfl (by decide) rfl (fun ls hl => ?_)
          refine lv_goto (tgt := 5) S.1 S.2.1 dX4_neededStep_40 (by decide) ?_
          exact ih5 v8 (v4 + 1) _ _ _ hf I (lv_sub hl [0, 1, 2, 3, 4] rfl)
        refine lv_if_eq (tgt := 37) S.1 S.2.1 dX4_neededStep_18 (by decide) (fun c9 => ?_) (fun c9 => ?_)
        · replace hf := x_ifT hf c9
          exact hj37 v3 _ _ _ hf I (lv_sub hl [0, 1, 2, 3, 4] rfl)
        · replace hf := x_ifF hf c9
          refine lv_iload_n S.1 S.2.1 dX4_neededStep_21 rfl (lv_at hl 1 rfl) ?_
          refine lv_iload_n S.1 S.2.1 dX4_neededStep_22 rfl (lv_at hl 4 rfl) ?_
          refine lv_icmp_ne (tgt := 34) S.1 S.2.1 dX4_neededStep_23 (by decide) (fun c10 => ?_) (fun c10 => ?_)
          · replace hf := x_ifF hf c10
            refine lv_iinc (v := (v3 + 1)) (lv' := [(3, .int (v3 + 1)), (4, .int v4), (0, .ref h), (1, .int p1), (2, .int p2)]) S.1 S.2.1 dX4_neededStep_34 hl (k := 1) rfl rfl (by decide) rfl (fun ls hl => ?_)
            exact hj37 (v3 + 1) _ _ _ hf I (lv_sub hl [1, 0, 2, 3, 4] rfl)
          · replace hf := x_ifT hf c10
            exact hx26 v4 _ _ _ hf I (lv_sub hl [0, 2] rfl)
  exact hl5 4096 0 0 _ _ _ hf I (lv_sub hl [0, 1, 2, 3, 4] rfl)
set_option maxHeartbeats 4000000 in
set_option maxRecDepth 100000 in
theorem tX4_proofStep (l : Launch) (D : va_G) (cI cC cZ : ClassId) (h : Nat) (a : Nat → Nat) (F : xF) (G : xG) (p1 p2 p3 : Int32) (res : Int32 × xG) (hf : fX4_proofStep F G p1 p2 p3 = some res) : xC l yX4_proofStep wsX4_proofStep rmX4_proofStep D [.ref h, .int p1, .int p2, .int p3] (wX4 cI cC cZ h a F G) (fun t => (wX4 cI cC cZ h a F t.2)) (xT cI cC cZ) (fun t => some (.int t.1)) res := by
  refine x_of (cc := cX4_proofStep) (maxL := 5) (ret := (some .int)) (by decide) rfl (Nat.le_of_ble_eq_true rfl) ?_
  intro p e s m args below meth c A Q ls S I E hl
  replace hl : lv_has ls 5 [(0, .ref h), (1, .int p1), (2, .int p2), (3, .int p3)] := hl
  replace hf := (fX4_proofStep_e _ _ _ _ _).symm.trans hf
  refine lv_aload_n S.1 S.2.1 dX4_proofStep_0 rfl (lv_at hl 0 rfl) ?_
  refine lv_iload_n S.1 S.2.1 dX4_proofStep_1 rfl (lv_at hl 1 rfl) ?_
  refine lv_iload_n S.1 S.2.1 dX4_proofStep_2 rfl (lv_at hl 2 rfl) ?_
  obtain ⟨r2, G3, hg1, hf⟩ := x_b2E hf
  refine x_cA (As := [.int p1, .int p2]) (rest := []) (st' := [.int r2]) (ws' := (wX4 cI cC cZ h a F G3)) S I (tX4_takeSteps l D cI cC cZ h a F G p1 p2 (r2, G3) hg1) (cwV 2 S.2.2.2.2 gX4_proofStep_X4_takeSteps rfl rfl rfl (by decide +kernel) ⟨Nat.le_of_ble_eq_true rfl, Nat.le_of_ble_eq_true rfl⟩) 0 3 rfl rfl rfl rfl hl rfl (Nat.le_of_ble_eq_true rfl) ⟨Nat.zero_le _, Nat.zero_le _⟩ rfl dX4_proofStep_3 (fun H locs I => ?_)
  refine lv_istore (lv' := [(4, .int r2), (0, .ref h), (1, .int p1), (2, .int p2), (3, .int p3)]) S.1 S.2.1 dX4_proofStep_6 hl (by decide) rfl (fun ls hl => ?_)
  refine lv_iload S.1 S.2.1 dX4_proofStep_8 (lv_at hl 0 rfl) ?_
  refine lv_iconst (v := (-1)) S.1 S.2.1 dX4_proofStep_10 (by decide) ?_
  refine lv_icmp_ne (tgt := 18) S.1 S.2.1 dX4_proofStep_11 (by decide) (fun c4 => ?_) (fun c4 => ?_)
  · replace hf := x_ifF hf c4
    refine lv_aload_n S.1 S.2.1 dX4_proofStep_18 rfl (lv_at hl 1 rfl) ?_
    refine lv_aload_n S.1 S.2.1 dX4_proofStep_19 rfl (lv_at hl 1 rfl) ?_
    refine lv_iload_n S.1 S.2.1 dX4_proofStep_20 rfl (lv_at hl 3 rfl) ?_
    refine lv_iload S.1 S.2.1 dX4_proofStep_21 (lv_at hl 0 rfl) ?_
    obtain ⟨r6, hg5, hf⟩ := x_b1E hf
    refine x_cA (As := [.int p2, .int r2]) (rest := [.ref h]) (st' := [.int r6, .ref h]) (ws' := (wX4 cI cC cZ h a F G3)) S I (tX4_neededSteps l D cI cC cZ h a F G3 p2 r2 r6 hg5) (cwV 2 S.2.2.2.2 gX4_proofStep_X4_neededSteps rfl rfl rfl (by decide +kernel) ⟨Nat.le_of_ble_eq_true rfl, Nat.le_of_ble_eq_true rfl⟩) 0 3 rfl rfl rfl rfl hl rfl (Nat.le_of_ble_eq_true rfl) ⟨Nat.zero_le _, Nat.zero_le _⟩ rfl dX4_proofStep_23 (fun H locs I => ?_)
    refine lv_iload_n S.1 S.2.1 dX4_proofStep_26 rfl (lv_at hl 4 rfl) ?_
    obtain ⟨r8, hg7, hf⟩ := x_b1E hf
    refine x_cA (As := [.int r6, .int p3]) (rest := []) (st' := [.int r8]) (ws' := (wX4 cI cC cZ h a F G3)) S I (tX4_neededStep l D cI cC cZ h a F G3 r6 p3 r8 hg7) (cwV 2 S.2.2.2.2 gX4_proofStep_X4_neededStep rfl rfl rfl (by decide +kernel) ⟨Nat.le_of_ble_eq_true rfl, Nat.le_of_ble_eq_true rfl⟩) 0 3 rfl rfl rfl rfl hl rfl (Nat.le_of_ble_eq_true rfl) ⟨Nat.zero_le _, Nat.zero_le _⟩ rfl dX4_proofStep_27 (fun H locs I => ?_)
    exact x_ri E rfl rfl hf rfl I rfl dX4_proofStep_30
  · replace hf := x_ifT hf c4
    refine lv_iconst (v := (-1)) S.1 S.2.1 dX4_proofStep_14 (by decide) ?_
    refine lv_goto (tgt := 30) S.1 S.2.1 dX4_proofStep_15 (by decide) ?_
    exact x_ri E rfl rfl hf rfl I rfl dX4_proofStep_30
set_option maxHeartbeats 4000000 in
set_option maxRecDepth 100000 in
theorem tX4_leastBySize (l : Launch) (D : va_G) (cI cC cZ : ClassId) (h : Nat) (a : Nat → Nat) (F : xF) (G : xG) (p1 p2 : Int32) (res : Int32) (hf : fX4_leastBySize F G p1 p2 = some res) : xC l yX4_leastBySize wsX4_leastBySize rmX4_leastBySize D [.ref h, .int p1, .int p2] (wX4 cI cC cZ h a F G) (fun _ => (wX4 cI cC cZ h a F G)) (xT cI cC cZ) (fun t => some (.int t)) res := by
  refine x_of (cc := cX4_leastBySize) (maxL := 5) (ret := (some .int)) (by decide) rfl (Nat.le_of_ble_eq_true rfl) ?_
  intro p e s m args below meth c A Q ls S I E hl
  replace hl : lv_has ls 5 [(0, .ref h), (1, .int p1), (2, .int p2)] := hl
  replace hf := (fX4_leastBySize_e _ _ _ _).symm.trans hf
  refine lv_aload_n S.1 S.2.1 dX4_leastBySize_0 rfl (lv_at hl 0 rfl) ?_
  refine lv_iload_n S.1 S.2.1 dX4_leastBySize_1 rfl (lv_at hl 2 rfl) ?_
  obtain ⟨r2, hg1, hf⟩ := x_b1E hf
  refine x_cA (As := [.int p2]) (rest := []) (st' := [.int r2]) (ws' := (wX4 cI cC cZ h a F G)) S I (tX4_closure l D cI cC cZ h a F G p2 r2 hg1) (cwV 1 S.2.2.2.2 gX4_leastBySize_X4_closure rfl rfl rfl (by decide +kernel) ⟨Nat.le_of_ble_eq_true rfl, Nat.le_of_ble_eq_true rfl⟩) 0 3 rfl rfl rfl rfl hl rfl (Nat.le_of_ble_eq_true rfl) ⟨Nat.zero_le _, Nat.zero_le _⟩ rfl dX4_leastBySize_2 (fun H locs I => ?_)
  refine lv_iload_n S.1 S.2.1 dX4_leastBySize_5 rfl (lv_at hl 1 rfl) ?_
  obtain ⟨r4, hg3, hf⟩ := x_b1E hf
  refine x_c0 (As := [.int r2, .int p1]) (rest := []) (st' := [.int r4]) S I rfl (tX4_contains l D cI cC cZ r2 p1 r4 hg3) (va_cwS 2 S.2.2.2.2 gX4_leastBySize_X4_contains rfl rfl rfl (by decide +kernel) ⟨Nat.le_of_ble_eq_true rfl, Nat.le_of_ble_eq_true rfl⟩) hl rfl (Nat.le_of_ble_eq_true rfl) ⟨Nat.zero_le _, Nat.zero_le _⟩ rfl dX4_leastBySize_6 (fun H locs I => ?_)
  refine lv_if_ne (tgt := 14) S.1 S.2.1 dX4_leastBySize_9 (by decide) (fun c5 => ?_) (fun c5 => ?_)
  · replace hf := x_ifF hf c5
    refine lv_iconst (v := 0) S.1 S.2.1 dX4_leastBySize_14 (by decide) ?_
    refine lv_istore_n (lv' := [(3, .int 0), (0, .ref h), (1, .int p1), (2, .int p2)]) S.1 S.2.1 dX4_leastBySize_15 rfl hl (by decide) rfl (fun ls hl => ?_)
    have hl16 : ∀ (n16 : Nat), ∀ (v6 : Int32) (H : Heap) (locs : List Loc) (ls : Array Slot), (fX4_leastBySize_l16 F G p2 p1 n16) v6 = some res → xI D A s (wX4 cI cC cZ h a F G) (xT cI cC cZ) H locs → lv_has ls 5 [(3, .int v6), (0, .ref h), (1, .int p1), (2, .int p2)] → W p l e (headSpec wsX4_leastBySize rmX4_leastBySize).room s m args below meth c H locs 0 0 Q (F0 m 16 ls []) := by
      intro n16
      induction n16 with
      | zero =>
        intro v6 H locs ls hf I hl
        cases (fX4_leastBySize_l16_z _ _ _ _ _).symm.trans hf
      | succ n16 ih16 =>
        intro v6 H locs ls hf I hl
        replace hf := (fX4_leastBySize_l16_e _ _ _ _ _ _).symm.trans hf
        refine lv_iload_n S.1 S.2.1 dX4_leastBySize_16 rfl (lv_at hl 0 rfl) ?_
        refine lv_bipush (v := 10) S.1 S.2.1 dX4_leastBySize_17 (by decide) ?_
        refine lv_icmp_gt (tgt := 77) S.1 S.2.1 dX4_leastBySize_19 (by decide) (fun c7 => ?_) (fun c7 => ?_)
        · replace hf := x_ifT hf c7
          refine lv_iconst (v := (-1)) S.1 S.2.1 dX4_leastBySize_77 (by decide) ?_
          exact x_ri E rfl rfl hf rfl I rfl dX4_leastBySize_78
        · replace hf := x_ifF hf c7
          refine lv_iconst (v := 0) S.1 S.2.1 dX4_leastBySize_22 (by decide) ?_
          refine lv_istore (lv' := [(4, .int 0), (3, .int v6), (0, .ref h), (1, .int p1), (2, .int p2)]) S.1 S.2.1 dX4_leastBySize_23 hl (by decide) rfl (fun ls hl => ?_)
          have hx71 : ∀  (H : Heap) (locs : List Loc) (ls : Array Slot), (fX4_leastBySize_x71 (fX4_leastBySize_l16 F G p2 p1 n16) v6) = some res → xI D A s (wX4 cI cC cZ h a F G) (xT cI cC cZ) H locs → lv_has ls 5 [(3, .int v6), (0, .ref h), (1, .int p1), (2, .int p2)] → W p l e (headSpec wsX4_leastBySize rmX4_leastBySize).room s m args below meth c H locs 0 0 Q (F0 m 71 ls []) := by
            intro  H locs ls hf I hl
            replace hf := (fX4_leastBySize_x71_e _ _).symm.trans hf
            refine lv_iinc (v := (v6 + 1)) (lv' := [(3, .int (v6 + 1)), (0, .ref h), (1, .int p1), (2, .int p2)]) S.1 S.2.1 dX4_leastBySize_71 hl (k := 0) rfl rfl (by decide) rfl (fun ls hl => ?_)
            refine lv_goto (tgt := 16) S.1 S.2.1 dX4_leastBySize_74 (by decide) ?_
            exact ih16 (v6 + 1) _ _ _ hf I (lv_sub hl [0, 1, 2, 3] rfl)
          have hl25 : ∀ (n25 : Nat), ∀ (v8 : Int32) (H : Heap) (locs : List Loc) (ls : Array Slot), (fX4_leastBySize_l25 (fX4_leastBySize_l16 F G p2 p1 n16) F G p2 v6 p1 n25) v8 = some res → xI D A s (wX4 cI cC cZ h a F G) (xT cI cC cZ) H locs → lv_has ls 5 [(4, .int v8), (3, .int v6), (0, .ref h), (1, .int p1), (2, .int p2)] → W p l e (headSpec wsX4_leastBySize rmX4_leastBySize).room s m args below meth c H locs 0 0 Q (F0 m 25 ls []) := by
            intro n25
            induction n25 with
            | zero =>
              intro v8 H locs ls hf I hl
              cases (fX4_leastBySize_l25_z _ _ _ _ _ _ _).symm.trans hf
            | succ n25 ih25 =>
              intro v8 H locs ls hf I hl
              replace hf := (fX4_leastBySize_l25_e _ _ _ _ _ _ _ _).symm.trans hf
              refine lv_iload S.1 S.2.1 dX4_leastBySize_25 (lv_at hl 0 rfl) ?_
              refine lv_iload_n S.1 S.2.1 dX4_leastBySize_27 rfl (lv_at hl 4 rfl) ?_
              refine lv_icmp_gt (tgt := 71) S.1 S.2.1 dX4_leastBySize_28 (by decide) (fun c9 => ?_) (fun c9 => ?_)
              · replace hf := x_ifT hf c9
                exact hx71 _ _ _ hf I (lv_sub hl [1, 2, 3, 4] rfl)
              · replace hf := x_ifF hf c9
                refine lv_iload S.1 S.2.1 dX4_leastBySize_31 (lv_at hl 0 rfl) ?_
                obtain ⟨r11, hg10, hf⟩ := x_b1E hf
                refine x_c0 (As := [.int v8]) (rest := []) (st' := [.int r11]) S I rfl (tJ6_bitCount_0f7a4 l D cI cC cZ v8 r11 hg10) (va_cwS 1 S.2.2.2.2 gX4_leastBySize_J6_bitCount_0f7a4 rfl rfl rfl (by decide +kernel) ⟨Nat.le_of_ble_eq_true rfl, Nat.le_of_ble_eq_true rfl⟩) hl rfl (Nat.le_of_ble_eq_true rfl) ⟨Nat.zero_le _, Nat.zero_le _⟩ rfl dX4_leastBySize_33 (fun H locs I => ?_)
                refine lv_iload_n S.1 S.2.1 dX4_leastBySize_36 rfl (lv_at hl 1 rfl) ?_
                have hj65 : ∀  (H : Heap) (locs : List Loc) (ls : Array Slot), (fX4_leastBySize_j65 (fX4_leastBySize_l25 (fX4_leastBySize_l16 F G p2 p1 n16) F G p2 v6 p1 n25) v8) = some res → xI D A s (wX4 cI cC cZ h a F G) (xT cI cC cZ) H locs → lv_has ls 5 [(4, .int v8), (3, .int v6), (0, .ref h), (1, .int p1), (2, .int p2)] → W p l e (headSpec wsX4_leastBySize rmX4_leastBySize).room s m args below meth c H locs 0 0 Q (F0 m 65 ls []) := by
                  intro  H locs ls hf I hl
                  replace hf := (fX4_leastBySize_j65_e _ _).symm.trans hf
                  refine lv_iinc (v := (v8 + 1)) (lv' := [(4, .int (v8 + 1)), (3, .int v6), (0, .ref h), (1, .int p1), (2, .int p2)]) S.1 S.2.1 dX4_leastBySize_65 hl (k := 0) rfl rfl (by decide) rfl (fun ls hl => ?_)
                  refine lv_goto (tgt := 25) S.1 S.2.1 dX4_leastBySize_68 (by decide) ?_
                  exact ih25 (v8 + 1) _ _ _ hf I (lv_sub hl [0, 1, 2, 3, 4] rfl)
                refine lv_icmp_ne (tgt := 65) S.1 S.2.1 dX4_leastBySize_37 (by decide) (fun c12 => ?_) (fun c12 => ?_)
                · replace hf := x_ifF hf c12
                  exact hj65 _ _ _ hf I (lv_sub hl [0, 1, 2, 3, 4] rfl)
                · replace hf := x_ifT hf c12
                  refine lv_iload_n S.1 S.2.1 dX4_leastBySize_40 rfl (lv_at hl 4 rfl) ?_
                  refine lv_iload S.1 S.2.1 dX4_leastBySize_41 (lv_at hl 0 rfl) ?_
                  obtain ⟨r14, hg13, hf⟩ := x_b1E hf
                  refine x_c0 (As := [.int p2, .int v8]) (rest := []) (st' := [.int r14]) S I rfl (tX4_includes l D cI cC cZ p2 v8 r14 hg13) (va_cwS 2 S.2.2.2.2 gX4_leastBySize_X4_includes rfl rfl rfl (by decide +kernel) ⟨Nat.le_of_ble_eq_true rfl, Nat.le_of_ble_eq_true rfl⟩) hl rfl (Nat.le_of_ble_eq_true rfl) ⟨Nat.zero_le _, Nat.zero_le _⟩ rfl dX4_leastBySize_43 (fun H locs I => ?_)
                  refine lv_if_eq (tgt := 65) S.1 S.2.1 dX4_leastBySize_46 (by decide) (fun c15 => ?_) (fun c15 => ?_)
                  · replace hf := x_ifT hf c15
                    exact hj65 _ _ _ hf I (lv_sub hl [0, 1, 2, 3, 4] rfl)
                  · replace hf := x_ifF hf c15
                    refine lv_aload_n S.1 S.2.1 dX4_leastBySize_49 rfl (lv_at hl 2 rfl) ?_
                    refine lv_iload S.1 S.2.1 dX4_leastBySize_50 (lv_at hl 0 rfl) ?_
                    obtain ⟨r17, hg16, hf⟩ := x_b1E hf
                    refine x_cA (As := [.int v8]) (rest := []) (st' := [.int r17]) (ws' := (wX4 cI cC cZ h a F G)) S I (tX4_closure l D cI cC cZ h a F G v8 r17 hg16) (cwV 1 S.2.2.2.2 gX4_leastBySize_X4_closure rfl rfl rfl (by decide +kernel) ⟨Nat.le_of_ble_eq_true rfl, Nat.le_of_ble_eq_true rfl⟩) 0 3 rfl rfl rfl rfl hl rfl (Nat.le_of_ble_eq_true rfl) ⟨Nat.zero_le _, Nat.zero_le _⟩ rfl dX4_leastBySize_52 (fun H locs I => ?_)
                    refine lv_iload_n S.1 S.2.1 dX4_leastBySize_55 rfl (lv_at hl 3 rfl) ?_
                    obtain ⟨r19, hg18, hf⟩ := x_b1E hf
                    refine x_c0 (As := [.int r17, .int p1]) (rest := []) (st' := [.int r19]) S I rfl (tX4_contains l D cI cC cZ r17 p1 r19 hg18) (va_cwS 2 S.2.2.2.2 gX4_leastBySize_X4_contains rfl rfl rfl (by decide +kernel) ⟨Nat.le_of_ble_eq_true rfl, Nat.le_of_ble_eq_true rfl⟩) hl rfl (Nat.le_of_ble_eq_true rfl) ⟨Nat.zero_le _, Nat.zero_le _⟩ rfl dX4_leastBySize_56 (fun H locs I => ?_)
                    refine lv_if_eq (tgt := 65) S.1 S.2.1 dX4_leastBySize_59 (by decide) (fun c20 => ?_) (fun c20 => ?_)
                    · replace hf := x_ifT hf c20
                      exact hj65 _ _ _ hf I (lv_sub hl [0, 1, 2, 3, 4] rfl)
                    · replace hf := x_ifF hf c20
                      refine lv_iload S.1 S.2.1 dX4_leastBySize_62 (lv_at hl 0 rfl) ?_
                      exact x_ri E rfl rfl hf rfl I rfl dX4_leastBySize_64
          exact hl25 4096 0 _ _ _ hf I (lv_sub hl [0, 1, 2, 3, 4] rfl)
    exact hl16 4096 0 _ _ _ hf I (lv_sub hl [0, 1, 2, 3] rfl)
  · replace hf := x_ifT hf c5
    refine lv_iconst (v := (-1)) S.1 S.2.1 dX4_leastBySize_12 (by decide) ?_
    exact x_ri E rfl rfl hf rfl I rfl dX4_leastBySize_13
set_option maxHeartbeats 4000000 in
set_option maxRecDepth 100000 in
theorem tX4_leastOfAll (l : Launch) (D : va_G) (cI cC cZ : ClassId) (h : Nat) (a : Nat → Nat) (F : xF) (G : xG) (p1 p2 : Int32) (res : Int32) (hf : fX4_leastOfAll F G p1 p2 = some res) : xC l yX4_leastOfAll wsX4_leastOfAll rmX4_leastOfAll D [.ref h, .int p1, .int p2] (wX4 cI cC cZ h a F G) (fun _ => (wX4 cI cC cZ h a F G)) (xT cI cC cZ) (fun t => some (.int t)) res := by
  refine x_of (cc := cX4_leastOfAll) (maxL := 7) (ret := (some .int)) (by decide) rfl (Nat.le_of_ble_eq_true rfl) ?_
  intro p e s m args below meth c A Q ls S I E hl
  replace hl : lv_has ls 7 [(0, .ref h), (1, .int p1), (2, .int p2)] := hl
  replace hf := (fX4_leastOfAll_e _ _ _ _).symm.trans hf
  refine lv_iconst (v := (-1)) S.1 S.2.1 dX4_leastOfAll_0 (by decide) ?_
  refine lv_istore_n (lv' := [(3, .int (-1)), (0, .ref h), (1, .int p1), (2, .int p2)]) S.1 S.2.1 dX4_leastOfAll_1 rfl hl (by decide) rfl (fun ls hl => ?_)
  refine lv_bipush (v := 11) S.1 S.2.1 dX4_leastOfAll_2 (by decide) ?_
  refine lv_istore (lv' := [(4, .int 11), (3, .int (-1)), (0, .ref h), (1, .int p1), (2, .int p2)]) S.1 S.2.1 dX4_leastOfAll_4 hl (by decide) rfl (fun ls hl => ?_)
  refine lv_iconst (v := 0) S.1 S.2.1 dX4_leastOfAll_6 (by decide) ?_
  refine lv_istore (lv' := [(5, .int 0), (4, .int 11), (3, .int (-1)), (0, .ref h), (1, .int p1), (2, .int p2)]) S.1 S.2.1 dX4_leastOfAll_7 hl (by decide) rfl (fun ls hl => ?_)
  have hl9 : ∀ (n9 : Nat), ∀ (v1 : Int32) (v2 : Int32) (v3 : Int32) (H : Heap) (locs : List Loc) (ls : Array Slot), (fX4_leastOfAll_l9 F G p2 p1 n9) v1 v2 v3 = some res → xI D A s (wX4 cI cC cZ h a F G) (xT cI cC cZ) H locs → lv_has ls 7 [(5, .int v3), (4, .int v2), (3, .int v1), (0, .ref h), (1, .int p1), (2, .int p2)] → W p l e (headSpec wsX4_leastOfAll rmX4_leastOfAll).room s m args below meth c H locs 0 0 Q (F0 m 9 ls []) := by
    intro n9
    induction n9 with
    | zero =>
      intro v1 v2 v3 H locs ls hf I hl
      cases (fX4_leastOfAll_l9_z _ _ _ _ _ _ _).symm.trans hf
    | succ n9 ih9 =>
      intro v1 v2 v3 H locs ls hf I hl
      replace hf := (fX4_leastOfAll_l9_e _ _ _ _ _ _ _ _).symm.trans hf
      refine lv_iload S.1 S.2.1 dX4_leastOfAll_9 (lv_at hl 0 rfl) ?_
      refine lv_iload_n S.1 S.2.1 dX4_leastOfAll_11 rfl (lv_at hl 5 rfl) ?_
      refine lv_icmp_gt (tgt := 64) S.1 S.2.1 dX4_leastOfAll_12 (by decide) (fun c4 => ?_) (fun c4 => ?_)
      · replace hf := x_ifT hf c4
        refine lv_iload_n S.1 S.2.1 dX4_leastOfAll_64 rfl (lv_at hl 2 rfl) ?_
        exact x_ri E rfl rfl hf rfl I rfl dX4_leastOfAll_65
      · replace hf := x_ifF hf c4
        refine lv_iload S.1 S.2.1 dX4_leastOfAll_15 (lv_at hl 0 rfl) ?_
        obtain ⟨r6, hg5, hf⟩ := x_b1E hf
        refine x_c0 (As := [.int v3]) (rest := []) (st' := [.int r6]) S I rfl (tJ6_bitCount_0f7a4 l D cI cC cZ v3 r6 hg5) (va_cwS 1 S.2.2.2.2 gX4_leastOfAll_J6_bitCount_0f7a4 rfl rfl rfl (by decide +kernel) ⟨Nat.le_of_ble_eq_true rfl, Nat.le_of_ble_eq_true rfl⟩) hl rfl (Nat.le_of_ble_eq_true rfl) ⟨Nat.zero_le _, Nat.zero_le _⟩ rfl dX4_leastOfAll_17 (fun H locs I => ?_)
        refine lv_istore (lv' := [(6, .int r6), (5, .int v3), (4, .int v2), (3, .int v1), (0, .ref h), (1, .int p1), (2, .int p2)]) S.1 S.2.1 dX4_leastOfAll_20 hl (by decide) rfl (fun ls hl => ?_)
        refine lv_iload_n S.1 S.2.1 dX4_leastOfAll_22 rfl (lv_at hl 6 rfl) ?_
        refine lv_iload S.1 S.2.1 dX4_leastOfAll_23 (lv_at hl 1 rfl) ?_
        obtain ⟨r8, hg7, hf⟩ := x_b1E hf
        refine x_c0 (As := [.int p2, .int v3]) (rest := []) (st' := [.int r8]) S I rfl (tX4_includes l D cI cC cZ p2 v3 r8 hg7) (va_cwS 2 S.2.2.2.2 gX4_leastOfAll_X4_includes rfl rfl rfl (by decide +kernel) ⟨Nat.le_of_ble_eq_true rfl, Nat.le_of_ble_eq_true rfl⟩) hl rfl (Nat.le_of_ble_eq_true rfl) ⟨Nat.zero_le _, Nat.zero_le _⟩ rfl dX4_leastOfAll_25 (fun H locs I => ?_)
        have hj58 : ∀ (v9 : Int32) (v10 : Int32) (H : Heap) (locs : List Loc) (ls : Array Slot), (fX4_leastOfAll_j58 (fX4_leastOfAll_l9 F G p2 p1 n9) v3) v9 v10 = some res → xI D A s (wX4 cI cC cZ h a F G) (xT cI cC cZ) H locs → lv_has ls 7 [(5, .int v3), (4, .int v10), (3, .int v9), (0, .ref h), (1, .int p1), (2, .int p2)] → W p l e (headSpec wsX4_leastOfAll rmX4_leastOfAll).room s m args below meth c H locs 0 0 Q (F0 m 58 ls []) := by
          intro v9 v10 H locs ls hf I hl
          replace hf := (fX4_leastOfAll_j58_e _ _ _ _).symm.trans hf
          refine lv_iinc (v := (v3 + 1)) (lv' := [(5, .int (v3 + 1)), (4, .int v10), (3, .int v9), (0, .ref h), (1, .int p1), (2, .int p2)]) S.1 S.2.1 dX4_leastOfAll_58 hl (k := 0) rfl rfl (by decide) rfl (fun ls hl => ?_)
          refine lv_goto (tgt := 9) S.1 S.2.1 dX4_leastOfAll_61 (by decide) ?_
          exact ih9 v9 v10 (v3 + 1) _ _ _ hf I (lv_sub hl [0, 1, 2, 3, 4, 5] rfl)
        refine lv_if_eq (tgt := 58) S.1 S.2.1 dX4_leastOfAll_28 (by decide) (fun c11 => ?_) (fun c11 => ?_)
        · replace hf := x_ifT hf c11
          exact hj58 v1 v2 _ _ _ hf I (lv_sub hl [1, 2, 3, 4, 5, 6] rfl)
        · replace hf := x_ifF hf c11
          refine lv_aload_n S.1 S.2.1 dX4_leastOfAll_31 rfl (lv_at hl 4 rfl) ?_
          refine lv_iload S.1 S.2.1 dX4_leastOfAll_32 (lv_at hl 1 rfl) ?_
          obtain ⟨r13, hg12, hf⟩ := x_b1E hf
          refine x_cA (As := [.int v3]) (rest := []) (st' := [.int r13]) (ws' := (wX4 cI cC cZ h a F G)) S I (tX4_closure l D cI cC cZ h a F G v3 r13 hg12) (cwV 1 S.2.2.2.2 gX4_leastOfAll_X4_closure rfl rfl rfl (by decide +kernel) ⟨Nat.le_of_ble_eq_true rfl, Nat.le_of_ble_eq_true rfl⟩) 0 3 rfl rfl rfl rfl hl rfl (Nat.le_of_ble_eq_true rfl) ⟨Nat.zero_le _, Nat.zero_le _⟩ rfl dX4_leastOfAll_34 (fun H locs I => ?_)
          refine lv_iload_n S.1 S.2.1 dX4_leastOfAll_37 rfl (lv_at hl 5 rfl) ?_
          obtain ⟨r15, hg14, hf⟩ := x_b1E hf
          refine x_c0 (As := [.int r13, .int p1]) (rest := []) (st' := [.int r15]) S I rfl (tX4_contains l D cI cC cZ r13 p1 r15 hg14) (va_cwS 2 S.2.2.2.2 gX4_leastOfAll_X4_contains rfl rfl rfl (by decide +kernel) ⟨Nat.le_of_ble_eq_true rfl, Nat.le_of_ble_eq_true rfl⟩) hl rfl (Nat.le_of_ble_eq_true rfl) ⟨Nat.zero_le _, Nat.zero_le _⟩ rfl dX4_leastOfAll_38 (fun H locs I => ?_)
          refine lv_if_eq (tgt := 58) S.1 S.2.1 dX4_leastOfAll_41 (by decide) (fun c16 => ?_) (fun c16 => ?_)
          · replace hf := x_ifT hf c16
            exact hj58 v1 v2 _ _ _ hf I (lv_sub hl [1, 2, 3, 4, 5, 6] rfl)
          · replace hf := x_ifF hf c16
            refine lv_iload S.1 S.2.1 dX4_leastOfAll_44 (lv_at hl 0 rfl) ?_
            refine lv_iload S.1 S.2.1 dX4_leastOfAll_46 (lv_at hl 2 rfl) ?_
            refine lv_icmp_ge (tgt := 58) S.1 S.2.1 dX4_leastOfAll_48 (by decide) (fun c17 => ?_) (fun c17 => ?_)
            · replace hf := x_ifT hf c17
              exact hj58 v1 v2 _ _ _ hf I (lv_sub hl [1, 2, 3, 4, 5, 6] rfl)
            · replace hf := x_ifF hf c17
              refine lv_iload S.1 S.2.1 dX4_leastOfAll_51 (lv_at hl 1 rfl) ?_
              refine lv_istore_n (lv' := [(3, .int v3), (6, .int r6), (5, .int v3), (4, .int v2), (0, .ref h), (1, .int p1), (2, .int p2)]) S.1 S.2.1 dX4_leastOfAll_53 rfl hl (by decide) rfl (fun ls hl => ?_)
              refine lv_iload S.1 S.2.1 dX4_leastOfAll_54 (lv_at hl 1 rfl) ?_
              refine lv_istore (lv' := [(4, .int r6), (3, .int v3), (6, .int r6), (5, .int v3), (0, .ref h), (1, .int p1), (2, .int p2)]) S.1 S.2.1 dX4_leastOfAll_56 hl (by decide) rfl (fun ls hl => ?_)
              exact hj58 v3 r6 _ _ _ hf I (lv_sub hl [3, 0, 1, 4, 5, 6] rfl)
  exact hl9 4096 (-1) 11 0 _ _ _ hf I (lv_sub hl [0, 1, 2, 3, 4, 5] rfl)
set_option maxHeartbeats 4000000 in
set_option maxRecDepth 100000 in
theorem tX4_rulesFor (l : Launch) (D : va_G) (cI cC cZ : ClassId) (h : Nat) (a : Nat → Nat) (F : xF) (G : xG) (p1 : Int32) (res : Int32) (hf : fX4_rulesFor F G p1 = some res) : xC l yX4_rulesFor wsX4_rulesFor rmX4_rulesFor D [.ref h, .int p1] (wX4 cI cC cZ h a F G) (fun _ => (wX4 cI cC cZ h a F G)) (xT cI cC cZ) (fun t => some (.int t)) res := by
  have kX4 : ∀ w ∈ u_ws RX4 TX4 9, w ∈ wsX4_rulesFor := by decide +kernel
  refine x_of (cc := cX4_rulesFor) (maxL := 4) (ret := (some .int)) (by decide) rfl (Nat.le_of_ble_eq_true rfl) ?_
  intro p e s m args below meth c A Q ls S I E hl
  replace hl : lv_has ls 4 [(0, .ref h), (1, .int p1)] := hl
  replace hf := (fX4_rulesFor_e _ _ _).symm.trans hf
  refine lv_iconst (v := 0) S.1 S.2.1 dX4_rulesFor_0 (by decide) ?_
  refine lv_istore_n (lv' := [(2, .int 0), (0, .ref h), (1, .int p1)]) S.1 S.2.1 dX4_rulesFor_1 rfl hl (by decide) rfl (fun ls hl => ?_)
  refine lv_iconst (v := 0) S.1 S.2.1 dX4_rulesFor_2 (by decide) ?_
  refine lv_istore_n (lv' := [(3, .int 0), (2, .int 0), (0, .ref h), (1, .int p1)]) S.1 S.2.1 dX4_rulesFor_3 rfl hl (by decide) rfl (fun ls hl => ?_)
  have hl4 : ∀ (n4 : Nat), ∀ (v1 : Int32) (v2 : Int32) (H : Heap) (locs : List Loc) (ls : Array Slot), (fX4_rulesFor_l4 F G p1 n4) v1 v2 = some res → xI D A s (wX4 cI cC cZ h a F G) (xT cI cC cZ) H locs → lv_has ls 4 [(3, .int v2), (2, .int v1), (0, .ref h), (1, .int p1)] → W p l e (headSpec wsX4_rulesFor rmX4_rulesFor).room s m args below meth c H locs 0 0 Q (F0 m 4 ls []) := by
    intro n4
    induction n4 with
    | zero =>
      intro v1 v2 H locs ls hf I hl
      cases (fX4_rulesFor_l4_z _ _ _ _ _).symm.trans hf
    | succ n4 ih4 =>
      intro v1 v2 H locs ls hf I hl
      replace hf := (fX4_rulesFor_l4_e _ _ _ _ _ _).symm.trans hf
      refine lv_iload_n S.1 S.2.1 dX4_rulesFor_4 rfl (lv_at hl 0 rfl) ?_
      refine lv_aload_n S.1 S.2.1 dX4_rulesFor_5 rfl (lv_at hl 2 rfl) ?_
      refine x_get (C := RX4) (T := TX4) (N := 9) (ci := 3) (v := .int (F 7)) S kX4 rfl I 0 7 rfl (by decide) (by decide +kernel) rfl dX4_rulesFor_6 ?_
      refine lv_icmp_ge (tgt := 31) S.1 S.2.1 dX4_rulesFor_9 (by decide) (fun c3 => ?_) (fun c3 => ?_)
      · replace hf := x_ifT hf c3
        refine lv_iload_n S.1 S.2.1 dX4_rulesFor_31 rfl (lv_at hl 1 rfl) ?_
        exact x_ri E rfl rfl hf rfl I rfl dX4_rulesFor_32
      · replace hf := x_ifF hf c3
        refine lv_aload_n S.1 S.2.1 dX4_rulesFor_12 rfl (lv_at hl 2 rfl) ?_
        refine x_get (C := RX4) (T := TX4) (N := 9) (ci := 3) (v := .ref (a 3)) S kX4 rfl I 0 3 rfl (by decide) (by decide +kernel) rfl dX4_rulesFor_13 ?_
        refine lv_iload_n S.1 S.2.1 dX4_rulesFor_16 rfl (lv_at hl 0 rfl) ?_
        obtain ⟨hi4, hf⟩ := x_ldE hf
        refine x_iald (f := (G 3)) S I 4 0 rfl rfl hi4 dX4_rulesFor_17 ?_
        refine lv_iload_n S.1 S.2.1 dX4_rulesFor_18 rfl (lv_at hl 3 rfl) ?_
        have hj25 : ∀ (v5 : Int32) (H : Heap) (locs : List Loc) (ls : Array Slot), (fX4_rulesFor_j25 (fX4_rulesFor_l4 F G p1 n4) v2) v5 = some res → xI D A s (wX4 cI cC cZ h a F G) (xT cI cC cZ) H locs → lv_has ls 4 [(3, .int v2), (2, .int v5), (0, .ref h), (1, .int p1)] → W p l e (headSpec wsX4_rulesFor rmX4_rulesFor).room s m args below meth c H locs 0 0 Q (F0 m 25 ls []) := by
          intro v5 H locs ls hf I hl
          replace hf := (fX4_rulesFor_j25_e _ _ _).symm.trans hf
          refine lv_iinc (v := (v2 + 1)) (lv' := [(3, .int (v2 + 1)), (2, .int v5), (0, .ref h), (1, .int p1)]) S.1 S.2.1 dX4_rulesFor_25 hl (k := 0) rfl rfl (by decide) rfl (fun ls hl => ?_)
          refine lv_goto (tgt := 4) S.1 S.2.1 dX4_rulesFor_28 (by decide) ?_
          exact ih4 v5 (v2 + 1) _ _ _ hf I (lv_sub hl [0, 1, 2, 3] rfl)
        refine lv_icmp_ne (tgt := 25) S.1 S.2.1 dX4_rulesFor_19 (by decide) (fun c6 => ?_) (fun c6 => ?_)
        · replace hf := x_ifF hf c6
          exact hj25 v1 _ _ _ hf I (lv_sub hl [0, 1, 2, 3] rfl)
        · replace hf := x_ifT hf c6
          refine lv_iinc (v := (v1 + 1)) (lv' := [(2, .int (v1 + 1)), (3, .int v2), (0, .ref h), (1, .int p1)]) S.1 S.2.1 dX4_rulesFor_22 hl (k := 1) rfl rfl (by decide) rfl (fun ls hl => ?_)
          exact hj25 (v1 + 1) _ _ _ hf I (lv_sub hl [1, 0, 2, 3] rfl)
  exact hl4 4096 0 0 _ _ _ hf I (lv_sub hl [0, 1, 2, 3] rfl)
set_option maxHeartbeats 4000000 in
set_option maxRecDepth 100000 in
theorem tX4_modelsWith (l : Launch) (D : va_G) (cI cC cZ : ClassId) (h : Nat) (a : Nat → Nat) (F : xF) (G : xG) (p1 : Int32) (res : Int32) (hf : fX4_modelsWith F G p1 = some res) : xC l yX4_modelsWith wsX4_modelsWith rmX4_modelsWith D [.ref h, .int p1] (wX4 cI cC cZ h a F G) (fun _ => (wX4 cI cC cZ h a F G)) (xT cI cC cZ) (fun t => some (.int t)) res := by
  have kX4 : ∀ w ∈ u_ws RX4 TX4 9, w ∈ wsX4_modelsWith := by decide +kernel
  refine x_of (cc := cX4_modelsWith) (maxL := 4) (ret := (some .int)) (by decide) rfl (Nat.le_of_ble_eq_true rfl) ?_
  intro p e s m args below meth c A Q ls S I E hl
  replace hl : lv_has ls 4 [(0, .ref h), (1, .int p1)] := hl
  replace hf := (fX4_modelsWith_e _ _ _).symm.trans hf
  refine lv_iconst (v := 0) S.1 S.2.1 dX4_modelsWith_0 (by decide) ?_
  refine lv_istore_n (lv' := [(2, .int 0), (0, .ref h), (1, .int p1)]) S.1 S.2.1 dX4_modelsWith_1 rfl hl (by decide) rfl (fun ls hl => ?_)
  refine lv_iconst (v := 0) S.1 S.2.1 dX4_modelsWith_2 (by decide) ?_
  refine lv_istore_n (lv' := [(3, .int 0), (2, .int 0), (0, .ref h), (1, .int p1)]) S.1 S.2.1 dX4_modelsWith_3 rfl hl (by decide) rfl (fun ls hl => ?_)
  have hl4 : ∀ (n4 : Nat), ∀ (v1 : Int32) (v2 : Int32) (H : Heap) (locs : List Loc) (ls : Array Slot), (fX4_modelsWith_l4 F G p1 n4) v1 v2 = some res → xI D A s (wX4 cI cC cZ h a F G) (xT cI cC cZ) H locs → lv_has ls 4 [(3, .int v2), (2, .int v1), (0, .ref h), (1, .int p1)] → W p l e (headSpec wsX4_modelsWith rmX4_modelsWith).room s m args below meth c H locs 0 0 Q (F0 m 4 ls []) := by
    intro n4
    induction n4 with
    | zero =>
      intro v1 v2 H locs ls hf I hl
      cases (fX4_modelsWith_l4_z _ _ _ _ _).symm.trans hf
    | succ n4 ih4 =>
      intro v1 v2 H locs ls hf I hl
      replace hf := (fX4_modelsWith_l4_e _ _ _ _ _ _).symm.trans hf
      refine lv_iload_n S.1 S.2.1 dX4_modelsWith_4 rfl (lv_at hl 0 rfl) ?_
      refine lv_aload_n S.1 S.2.1 dX4_modelsWith_5 rfl (lv_at hl 2 rfl) ?_
      refine x_get (C := RX4) (T := TX4) (N := 9) (ci := 3) (v := .int (F 8)) S kX4 rfl I 0 8 rfl (by decide) (by decide +kernel) rfl dX4_modelsWith_6 ?_
      refine lv_icmp_ge (tgt := 34) S.1 S.2.1 dX4_modelsWith_9 (by decide) (fun c3 => ?_) (fun c3 => ?_)
      · replace hf := x_ifT hf c3
        refine lv_iload_n S.1 S.2.1 dX4_modelsWith_34 rfl (lv_at hl 1 rfl) ?_
        exact x_ri E rfl rfl hf rfl I rfl dX4_modelsWith_35
      · replace hf := x_ifF hf c3
        refine lv_aload_n S.1 S.2.1 dX4_modelsWith_12 rfl (lv_at hl 2 rfl) ?_
        refine x_get (C := RX4) (T := TX4) (N := 9) (ci := 3) (v := .ref (a 4)) S kX4 rfl I 0 4 rfl (by decide) (by decide +kernel) rfl dX4_modelsWith_13 ?_
        refine lv_iload_n S.1 S.2.1 dX4_modelsWith_16 rfl (lv_at hl 0 rfl) ?_
        obtain ⟨hi4, hf⟩ := x_ldE hf
        refine x_iald (f := (G 4)) S I 5 0 rfl rfl hi4 dX4_modelsWith_17 ?_
        refine lv_iload_n S.1 S.2.1 dX4_modelsWith_18 rfl (lv_at hl 3 rfl) ?_
        obtain ⟨r6, hg5, hf⟩ := x_b1E hf
        refine x_c0 (As := [.int ((G 4) v2.toNatClampNeg), .int p1]) (rest := []) (st' := [.int r6]) S I rfl (tX4_contains l D cI cC cZ ((G 4) v2.toNatClampNeg) p1 r6 hg5) (va_cwS 2 S.2.2.2.2 gX4_modelsWith_X4_contains rfl rfl rfl (by decide +kernel) ⟨Nat.le_of_ble_eq_true rfl, Nat.le_of_ble_eq_true rfl⟩) hl rfl (Nat.le_of_ble_eq_true rfl) ⟨Nat.zero_le _, Nat.zero_le _⟩ rfl dX4_modelsWith_19 (fun H locs I => ?_)
        have hj28 : ∀ (v7 : Int32) (H : Heap) (locs : List Loc) (ls : Array Slot), (fX4_modelsWith_j28 (fX4_modelsWith_l4 F G p1 n4) v2) v7 = some res → xI D A s (wX4 cI cC cZ h a F G) (xT cI cC cZ) H locs → lv_has ls 4 [(3, .int v2), (2, .int v7), (0, .ref h), (1, .int p1)] → W p l e (headSpec wsX4_modelsWith rmX4_modelsWith).room s m args below meth c H locs 0 0 Q (F0 m 28 ls []) := by
          intro v7 H locs ls hf I hl
          replace hf := (fX4_modelsWith_j28_e _ _ _).symm.trans hf
          refine lv_iinc (v := (v2 + 1)) (lv' := [(3, .int (v2 + 1)), (2, .int v7), (0, .ref h), (1, .int p1)]) S.1 S.2.1 dX4_modelsWith_28 hl (k := 0) rfl rfl (by decide) rfl (fun ls hl => ?_)
          refine lv_goto (tgt := 4) S.1 S.2.1 dX4_modelsWith_31 (by decide) ?_
          exact ih4 v7 (v2 + 1) _ _ _ hf I (lv_sub hl [0, 1, 2, 3] rfl)
        refine lv_if_eq (tgt := 28) S.1 S.2.1 dX4_modelsWith_22 (by decide) (fun c8 => ?_) (fun c8 => ?_)
        · replace hf := x_ifT hf c8
          exact hj28 v1 _ _ _ hf I (lv_sub hl [0, 1, 2, 3] rfl)
        · replace hf := x_ifF hf c8
          refine lv_iinc (v := (v1 + 1)) (lv' := [(2, .int (v1 + 1)), (3, .int v2), (0, .ref h), (1, .int p1)]) S.1 S.2.1 dX4_modelsWith_25 hl (k := 1) rfl rfl (by decide) rfl (fun ls hl => ?_)
          exact hj28 (v1 + 1) _ _ _ hf I (lv_sub hl [1, 0, 2, 3] rfl)
  exact hl4 4096 0 0 _ _ _ hf I (lv_sub hl [0, 1, 2, 3] rfl)
set_option maxHeartbeats 4000000 in
set_option maxRecDepth 100000 in
theorem tX4_tell (l : Launch) (D : va_G) (cI cC cZ : ClassId) (h : Nat) (a : Nat → Nat) (F : xF) (G : xG) (p1 p2 : Int32) (res : Int32) (hf : fX4_tell F G p1 p2 = some res) : xC l yX4_tell wsX4_tell rmX4_tell D [.ref h, .int p1, .int p2] (wX4 cI cC cZ h a F G) (fun _ => (wX4 cI cC cZ h a F G)) (xT cI cC cZ) (fun t => some (.int t)) res := by
  have kX4 : ∀ w ∈ u_ws RX4 TX4 9, w ∈ wsX4_tell := by decide +kernel
  refine x_of (cc := cX4_tell) (maxL := 3) (ret := (some .int)) (by decide) rfl (Nat.le_of_ble_eq_true rfl) ?_
  intro p e s m args below meth c A Q ls S I E hl
  replace hl : lv_has ls 3 [(0, .ref h), (1, .int p1), (2, .int p2)] := hl
  replace hf := (fX4_tell_e _ _ _ _).symm.trans hf
  refine lv_iload_n S.1 S.2.1 dX4_tell_0 rfl (lv_at hl 2 rfl) ?_
  by_cases c1 : p2 = 0
  · replace hf := x_ifT hf c1
    refine lv_tableIn (off := 27) (tgt := 28) S.1 S.2.1 dX4_tell_1 (by rw [c1]; decide) (by rw [c1]; decide) (by rw [c1]; rfl) (by decide) ?_
    refine lv_aload_n S.1 S.2.1 dX4_tell_28 rfl (lv_at hl 0 rfl) ?_
    refine x_get (C := RX4) (T := TX4) (N := 9) (ci := 3) (v := .ref (a 0)) S kX4 rfl I 0 0 rfl (by decide) (by decide +kernel) rfl dX4_tell_29 ?_
    refine lv_iload_n S.1 S.2.1 dX4_tell_32 rfl (lv_at hl 1 rfl) ?_
    obtain ⟨hi2, hf⟩ := x_ldE hf
    refine x_iald (f := (G 0)) S I 1 0 rfl rfl hi2 dX4_tell_33 ?_
    exact x_ri E rfl rfl hf rfl I rfl dX4_tell_34
  · replace hf := x_ifF hf c1
    by_cases c3 : p2 = 1
    · replace hf := x_ifT hf c3
      refine lv_tableIn (off := 34) (tgt := 35) S.1 S.2.1 dX4_tell_1 (by rw [c3]; decide) (by rw [c3]; decide) (by rw [c3]; rfl) (by decide) ?_
      refine lv_aload_n S.1 S.2.1 dX4_tell_35 rfl (lv_at hl 0 rfl) ?_
      refine x_get (C := RX4) (T := TX4) (N := 9) (ci := 3) (v := .ref (a 1)) S kX4 rfl I 0 1 rfl (by decide) (by decide +kernel) rfl dX4_tell_36 ?_
      refine lv_iload_n S.1 S.2.1 dX4_tell_39 rfl (lv_at hl 1 rfl) ?_
      obtain ⟨hi4, hf⟩ := x_ldE hf
      refine x_iald (f := (G 1)) S I 2 0 rfl rfl hi4 dX4_tell_40 ?_
      exact x_ri E rfl rfl hf rfl I rfl dX4_tell_41
    · replace hf := x_ifF hf c3
      by_cases c5 : p2 = 2
      · replace hf := x_ifT hf c5
        refine lv_tableIn (off := 41) (tgt := 42) S.1 S.2.1 dX4_tell_1 (by rw [c5]; decide) (by rw [c5]; decide) (by rw [c5]; rfl) (by decide) ?_
        refine lv_aload_n S.1 S.2.1 dX4_tell_42 rfl (lv_at hl 0 rfl) ?_
        refine lv_iload_n S.1 S.2.1 dX4_tell_43 rfl (lv_at hl 1 rfl) ?_
        obtain ⟨r7, hg6, hf⟩ := x_b1E hf
        refine x_cA (As := [.int p1]) (rest := []) (st' := [.int r7]) (ws' := (wX4 cI cC cZ h a F G)) S I (tX4_rulesFor l D cI cC cZ h a F G p1 r7 hg6) (cwV 1 S.2.2.2.2 gX4_tell_X4_rulesFor rfl rfl rfl (by decide +kernel) ⟨Nat.le_of_ble_eq_true rfl, Nat.le_of_ble_eq_true rfl⟩) 0 3 rfl rfl rfl rfl hl rfl (Nat.le_of_ble_eq_true rfl) ⟨Nat.zero_le _, Nat.zero_le _⟩ rfl dX4_tell_44 (fun H locs I => ?_)
        exact x_ri E rfl rfl hf rfl I rfl dX4_tell_47
      · replace hf := x_ifF hf c5
        refine lv_tableOut (tgt := 48) S.1 S.2.1 dX4_tell_1 (by have e0 := lv_neT c1 (a := 0) (by decide); have e1 := lv_neT c3 (a := 1) (by decide); have e2 := lv_neT c5 (a := 2) (by decide); omega) (by decide) ?_
        refine lv_aload_n S.1 S.2.1 dX4_tell_48 rfl (lv_at hl 0 rfl) ?_
        refine lv_iload_n S.1 S.2.1 dX4_tell_49 rfl (lv_at hl 1 rfl) ?_
        obtain ⟨r9, hg8, hf⟩ := x_b1E hf
        refine x_cA (As := [.int p1]) (rest := []) (st' := [.int r9]) (ws' := (wX4 cI cC cZ h a F G)) S I (tX4_modelsWith l D cI cC cZ h a F G p1 r9 hg8) (cwV 1 S.2.2.2.2 gX4_tell_X4_modelsWith rfl rfl rfl (by decide +kernel) ⟨Nat.le_of_ble_eq_true rfl, Nat.le_of_ble_eq_true rfl⟩) 0 3 rfl rfl rfl rfl hl rfl (Nat.le_of_ble_eq_true rfl) ⟨Nat.zero_le _, Nat.zero_le _⟩ rfl dX4_tell_50 (fun H locs I => ?_)
        exact x_ri E rfl rfl hf rfl I rfl dX4_tell_53
