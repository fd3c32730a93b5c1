set_option maxHeartbeats 4000000 in
set_option maxRecDepth 100000 in
theorem tX0_clear (l : Launch) (D : va_G) (cI cC cZ : ClassId) (h : Nat) (a : Nat → Nat) (F : xF) (G : xG) (res : xF) (hf : fX0_clear F = some res) : xC l yX0_clear wsX0_clear rmX0_clear D [.ref h] (wX0 cI cC cZ h a F G) (fun t => (wX0 cI cC cZ h a t G)) (xT cI cC cZ) (fun _ => none) res := by
  have kX0 : ∀ w ∈ u_ws RX0 TX0 11, w ∈ wsX0_clear := by decide +kernel
  refine x_of (cc := cX0_clear) (maxL := 1) (ret := none) (by decide) rfl (Nat.le_of_ble_eq_true rfl) ?_
  intro p e s m args below meth c A Q ls S I E hl
  replace hl : lv_has ls 1 [(0, .ref h)] := hl
  replace hf := (fX0_clear_e _).symm.trans hf
  refine lv_aload_n S.1 S.2.1 dX0_clear_0 rfl (lv_at hl 0 rfl) ?_
  refine lv_iconst (v := 0) S.1 S.2.1 dX0_clear_1 (by decide) ?_
  refine x_put (C := RX0) (T := TX0) (N := 11) (ci := 0) (ws' := (wX0 cI cC cZ h a (va_up F 9 0) G)) S kX0 tyX0 tyX0_ok nmX0 rfl I 0 9 rfl (by decide) (by decide +kernel) rfl rfl (Nat.le_of_ble_eq_true rfl) rfl dX0_clear_2 (fun H locs I => ?_)
  refine lv_aload_n S.1 S.2.1 dX0_clear_5 rfl (lv_at hl 0 rfl) ?_
  refine lv_iconst (v := 0) S.1 S.2.1 dX0_clear_6 (by decide) ?_
  refine x_put (C := RX0) (T := TX0) (N := 11) (ci := 0) (ws' := (wX0 cI cC cZ h a (va_up (va_up F 9 0) 10 0) G)) S kX0 tyX0 tyX0_ok nmX0 rfl I 0 10 rfl (by decide) (by decide +kernel) rfl rfl (Nat.le_of_ble_eq_true rfl) rfl dX0_clear_7 (fun H locs I => ?_)
  exact x_rv E rfl hf rfl I rfl dX0_clear_10
set_option maxHeartbeats 4000000 in
set_option maxRecDepth 100000 in
theorem tX0_wholeSigma (l : Launch) (D : va_G) (cI cC cZ : ClassId) (h : Nat) (a : Nat → Nat) (F : xF) (G : xG) (res : Int32) (hf : fX0_wholeSigma G = some res) : xC l yX0_wholeSigma wsX0_wholeSigma rmX0_wholeSigma D [.ref h] (wX0 cI cC cZ h a F G) (fun _ => (wX0 cI cC cZ h a F G)) (xT cI cC cZ) (fun t => some (.int t)) res := by
  have kX0 : ∀ w ∈ u_ws RX0 TX0 11, w ∈ wsX0_wholeSigma := by decide +kernel
  refine x_of (cc := cX0_wholeSigma) (maxL := 1) (ret := (some .int)) (by decide) rfl (Nat.le_of_ble_eq_true rfl) ?_
  intro p e s m args below meth c A Q ls S I E hl
  replace hl : lv_has ls 1 [(0, .ref h)] := hl
  replace hf := (fX0_wholeSigma_e _).symm.trans hf
  refine lv_aload_n S.1 S.2.1 dX0_wholeSigma_0 rfl (lv_at hl 0 rfl) ?_
  refine x_get (C := RX0) (T := TX0) (N := 11) (ci := 0) (v := .ref (a 5)) S kX0 rfl I 0 5 rfl (by decide) (by decide +kernel) rfl dX0_wholeSigma_1 ?_
  refine lv_iconst (v := 0) S.1 S.2.1 dX0_wholeSigma_4 (by decide) ?_
  obtain ⟨hi1, hf⟩ := x_ldE hf
  refine x_iald (f := (G 5)) S I 6 0 rfl rfl hi1 dX0_wholeSigma_5 ?_
  exact x_ri E rfl rfl hf rfl I rfl dX0_wholeSigma_6
set_option maxHeartbeats 4000000 in
set_option maxRecDepth 100000 in
theorem tX0_wholePi (l : Launch) (D : va_G) (cI cC cZ : ClassId) (h : Nat) (a : Nat → Nat) (F : xF) (G : xG) (res : Int32) (hf : fX0_wholePi G = some res) : xC l yX0_wholePi wsX0_wholePi rmX0_wholePi D [.ref h] (wX0 cI cC cZ h a F G) (fun _ => (wX0 cI cC cZ h a F G)) (xT cI cC cZ) (fun t => some (.int t)) res := by
  have kX0 : ∀ w ∈ u_ws RX0 TX0 11, w ∈ wsX0_wholePi := by decide +kernel
  refine x_of (cc := cX0_wholePi) (maxL := 1) (ret := (some .int)) (by decide) rfl (Nat.le_of_ble_eq_true rfl) ?_
  intro p e s m args below meth c A Q ls S I E hl
  replace hl : lv_has ls 1 [(0, .ref h)] := hl
  replace hf := (fX0_wholePi_e _).symm.trans hf
  refine lv_aload_n S.1 S.2.1 dX0_wholePi_0 rfl (lv_at hl 0 rfl) ?_
  refine x_get (C := RX0) (T := TX0) (N := 11) (ci := 0) (v := .ref (a 6)) S kX0 rfl I 0 6 rfl (by decide) (by decide +kernel) rfl dX0_wholePi_1 ?_
  refine lv_iconst (v := 0) S.1 S.2.1 dX0_wholePi_4 (by decide) ?_
  obtain ⟨hi1, hf⟩ := x_ldE hf
  refine x_iald (f := (G 6)) S I 7 0 rfl rfl hi1 dX0_wholePi_5 ?_
  exact x_ri E rfl rfl hf rfl I rfl dX0_wholePi_6
set_option maxHeartbeats 4000000 in
set_option maxRecDepth 100000 in
theorem tX0_wholeFree (l : Launch) (D : va_G) (cI cC cZ : ClassId) (h : Nat) (a : Nat → Nat) (F : xF) (G : xG) (res : Int32) (hf : fX0_wholeFree G = some res) : xC l yX0_wholeFree wsX0_wholeFree rmX0_wholeFree D [.ref h] (wX0 cI cC cZ h a F G) (fun _ => (wX0 cI cC cZ h a F G)) (xT cI cC cZ) (fun t => some (.int t)) res := by
  have kX0 : ∀ w ∈ u_ws RX0 TX0 11, w ∈ wsX0_wholeFree := by decide +kernel
  refine x_of (cc := cX0_wholeFree) (maxL := 1) (ret := (some .int)) (by decide) rfl (Nat.le_of_ble_eq_true rfl) ?_
  intro p e s m args below meth c A Q ls S I E hl
  replace hl : lv_has ls 1 [(0, .ref h)] := hl
  replace hf := (fX0_wholeFree_e _).symm.trans hf
  refine lv_aload_n S.1 S.2.1 dX0_wholeFree_0 rfl (lv_at hl 0 rfl) ?_
  refine x_get (C := RX0) (T := TX0) (N := 11) (ci := 0) (v := .ref (a 7)) S kX0 rfl I 0 7 rfl (by decide) (by decide +kernel) rfl dX0_wholeFree_1 ?_
  refine lv_iconst (v := 0) S.1 S.2.1 dX0_wholeFree_4 (by decide) ?_
  obtain ⟨hi1, hf⟩ := x_ldE hf
  refine x_iald (f := (G 7)) S I 8 0 rfl rfl hi1 dX0_wholeFree_5 ?_
  exact x_ri E rfl rfl hf rfl I rfl dX0_wholeFree_6
set_option maxHeartbeats 4000000 in
set_option maxRecDepth 100000 in
theorem tX0_isBounded (l : Launch) (D : va_G) (cI cC cZ : ClassId) (p1 : Int32) (res : Int32) (hf : fX0_isBounded p1 = some res) : xC l yX0_isBounded wsX0_isBounded rmX0_isBounded D [.int p1] [] (fun _ => []) (xT cI cC cZ) (fun t => some (.int t)) res := by
  refine x_of (cc := cX0_isBounded) (maxL := 1) (ret := (some .boolean)) (by decide) rfl (Nat.le_of_ble_eq_true rfl) ?_
  intro p e s m args below meth c A Q ls S I E hl
  replace hl : lv_has ls 1 [(0, .int p1)] := hl
  replace hf := (fX0_isBounded_e _).symm.trans hf
  refine lv_iload_n S.1 S.2.1 dX0_isBounded_0 rfl (lv_at hl 0 rfl) ?_
  refine lv_bipush (v := 97) S.1 S.2.1 dX0_isBounded_1 (by decide) ?_
  refine lv_icmp_eq (tgt := 12) S.1 S.2.1 dX0_isBounded_3 (by decide) (fun c1 => ?_) (fun c1 => ?_)
  · replace hf := x_ifT hf c1
    refine lv_iconst (v := 1) S.1 S.2.1 dX0_isBounded_12 (by decide) ?_
    refine lv_goto (tgt := 17) S.1 S.2.1 dX0_isBounded_13 (by decide) ?_
    exact x_ri E rfl x_n1 hf rfl I rfl dX0_isBounded_17
  · replace hf := x_ifF hf c1
    refine lv_iload_n S.1 S.2.1 dX0_isBounded_6 rfl (lv_at hl 0 rfl) ?_
    refine lv_bipush (v := 101) S.1 S.2.1 dX0_isBounded_7 (by decide) ?_
    refine lv_icmp_ne (tgt := 16) S.1 S.2.1 dX0_isBounded_9 (by decide) (fun c2 => ?_) (fun c2 => ?_)
    · replace hf := x_ifF hf c2
      refine lv_iconst (v := 0) S.1 S.2.1 dX0_isBounded_16 (by decide) ?_
      exact x_ri E rfl x_n0 hf rfl I rfl dX0_isBounded_17
    · replace hf := x_ifT hf c2
      refine lv_iconst (v := 1) S.1 S.2.1 dX0_isBounded_12 (by decide) ?_
      refine lv_goto (tgt := 17) S.1 S.2.1 dX0_isBounded_13 (by decide) ?_
      exact x_ri E rfl x_n1 hf rfl I rfl dX0_isBounded_17
set_option maxHeartbeats 4000000 in
set_option maxRecDepth 100000 in
theorem tX0_add (l : Launch) (D : va_G) (cI cC cZ : ClassId) (h : Nat) (a : Nat → Nat) (F : xF) (G : xG) (p1 : Int32) (res : Int32 × xF × xG) (hf : fX0_add F G p1 = some res) : xC l yX0_add wsX0_add rmX0_add D [.ref h, .int p1] (wX0 cI cC cZ h a F G) (fun t => (wX0 cI cC cZ h a t.2.1 t.2.2)) (xT cI cC cZ) (fun t => some (.int t.1)) res := by
  have kX0 : ∀ w ∈ u_ws RX0 TX0 11, w ∈ wsX0_add := by decide +kernel
  refine x_of (cc := cX0_add) (maxL := 3) (ret := (some .int)) (by decide) rfl (Nat.le_of_ble_eq_true rfl) ?_
  intro p e s m args below meth c A Q ls S I E hl
  replace hl : lv_has ls 3 [(0, .ref h), (1, .int p1)] := hl
  replace hf := (fX0_add_e _ _ _).symm.trans hf
  refine lv_aload_n S.1 S.2.1 dX0_add_0 rfl (lv_at hl 0 rfl) ?_
  refine x_get (C := RX0) (T := TX0) (N := 11) (ci := 0) (v := .int (F 9)) S kX0 rfl I 0 9 rfl (by decide) (by decide +kernel) rfl dX0_add_1 ?_
  refine lv_istore_n (lv' := [(2, .int (F 9)), (0, .ref h), (1, .int p1)]) S.1 S.2.1 dX0_add_4 rfl hl (by decide) rfl (fun ls hl => ?_)
  refine lv_aload_n S.1 S.2.1 dX0_add_5 rfl (lv_at hl 1 rfl) ?_
  refine lv_dup S.1 S.2.1 dX0_add_6 rfl ?_
  refine x_get (C := RX0) (T := TX0) (N := 11) (ci := 0) (v := .int (F 9)) S kX0 rfl I 0 9 rfl (by decide) (by decide +kernel) rfl dX0_add_7 ?_
  refine lv_iconst (v := 1) S.1 S.2.1 dX0_add_10 (by decide) ?_
  refine lv_iadd S.1 S.2.1 dX0_add_11 ?_
  refine x_put (C := RX0) (T := TX0) (N := 11) (ci := 0) (ws' := (wX0 cI cC cZ h a (va_up F 9 ((F 9) + 1)) G)) S kX0 tyX0 tyX0_ok nmX0 rfl I 0 9 rfl (by decide) (by decide +kernel) rfl rfl (Nat.le_of_ble_eq_true rfl) rfl dX0_add_12 (fun H locs I => ?_)
  refine lv_aload_n S.1 S.2.1 dX0_add_15 rfl (lv_at hl 1 rfl) ?_
  refine x_get (C := RX0) (T := TX0) (N := 11) (ci := 0) (v := .ref (a 0)) S kX0 rfl I 0 0 rfl (by decide) (by decide +kernel) rfl dX0_add_16 ?_
  refine lv_iload_n S.1 S.2.1 dX0_add_19 rfl (lv_at hl 0 rfl) ?_
  refine lv_iload_n S.1 S.2.1 dX0_add_20 rfl (lv_at hl 2 rfl) ?_
  obtain ⟨hi1, hf⟩ := x_ldE hf
  refine x_cast (f := (G 0)) (ws' := (wX0 cI cC cZ h a (va_up F 9 ((F 9) + 1)) (va_up G 0 (upd (G 0) (F 9).toNatClampNeg (x_cn p1))))) S I 1 1 rfl rfl hi1 rfl dX0_add_21 (fun H locs I => ?_)
  refine lv_iload_n S.1 S.2.1 dX0_add_22 rfl (lv_at hl 2 rfl) ?_
  obtain ⟨r3, hg2, hf⟩ := x_b1E hf
  refine x_c0 (As := [.int p1]) (rest := []) (st' := [.int r3]) S I rfl (tX0_isBounded l D cI cC cZ p1 r3 hg2) (va_cwS 1 S.2.2.2.2 gX0_add_X0_isBounded rfl rfl rfl (by decide +kernel) ⟨Nat.le_of_ble_eq_true rfl, Nat.le_of_ble_eq_true rfl⟩) hl rfl (Nat.le_of_ble_eq_true rfl) ⟨Nat.zero_le _, Nat.zero_le _⟩ rfl dX0_add_23 (fun H locs I => ?_)
  have hj41 : ∀  (H : Heap) (locs : List Loc) (ls : Array Slot), (fX0_add_j41 F G p1) = some res → xI D A s (wX0 cI cC cZ h a (va_up F 9 ((F 9) + 1)) (va_up G 0 (upd (G 0) (F 9).toNatClampNeg (x_cn p1)))) (xT cI cC cZ) H locs → lv_has ls 3 [(2, .int (F 9)), (0, .ref h)] → W p l e (headSpec wsX0_add rmX0_add).room s m args below meth c H locs 0 0 Q (F0 m 41 ls []) := by
    intro  H locs ls hf I hl
    replace hf := (fX0_add_j41_e _ _ _).symm.trans hf
    refine lv_aload_n S.1 S.2.1 dX0_add_41 rfl (lv_at hl 1 rfl) ?_
    refine lv_dup S.1 S.2.1 dX0_add_42 rfl ?_
    refine x_get (C := RX0) (T := TX0) (N := 11) (ci := 0) (v := .int (F 10)) S kX0 rfl I 0 10 rfl (by decide) (by decide +kernel) rfl dX0_add_43 ?_
    refine lv_iconst (v := 1) S.1 S.2.1 dX0_add_46 (by decide) ?_
    refine lv_iadd S.1 S.2.1 dX0_add_47 ?_
    refine x_put (C := RX0) (T := TX0) (N := 11) (ci := 0) (ws' := (wX0 cI cC cZ h a (va_up (va_up F 9 ((F 9) + 1)) 10 ((F 10) + 1)) (va_up G 0 (upd (G 0) (F 9).toNatClampNeg (x_cn p1))))) S kX0 tyX0 tyX0_ok nmX0 rfl I 0 10 rfl (by decide) (by decide +kernel) rfl rfl (Nat.le_of_ble_eq_true rfl) rfl dX0_add_48 (fun H locs I => ?_)
    refine lv_iload_n S.1 S.2.1 dX0_add_51 rfl (lv_at hl 0 rfl) ?_
    exact x_ri E rfl rfl hf rfl I rfl dX0_add_52
  refine lv_if_ne (tgt := 41) S.1 S.2.1 dX0_add_26 (by decide) (fun c4 => ?_) (fun c4 => ?_)
  · replace hf := x_ifF hf c4
    exact hj41 _ _ _ hf I (lv_sub hl [0, 1] rfl)
  · replace hf := x_ifT hf c4
    refine lv_iload_n S.1 S.2.1 dX0_add_29 rfl (lv_at hl 2 rfl) ?_
    refine lv_bipush (v := 65) S.1 S.2.1 dX0_add_30 (by decide) ?_
    refine lv_icmp_eq (tgt := 41) S.1 S.2.1 dX0_add_32 (by decide) (fun c5 => ?_) (fun c5 => ?_)
    · replace hf := x_ifT hf c5
      exact hj41 _ _ _ hf I (lv_sub hl [0, 1] rfl)
    · replace hf := x_ifF hf c5
      refine lv_iload_n S.1 S.2.1 dX0_add_35 rfl (lv_at hl 2 rfl) ?_
      refine lv_bipush (v := 69) S.1 S.2.1 dX0_add_36 (by decide) ?_
      refine lv_icmp_ne (tgt := 51) S.1 S.2.1 dX0_add_38 (by decide) (fun c6 => ?_) (fun c6 => ?_)
      · replace hf := x_ifF hf c6
        refine lv_iload_n S.1 S.2.1 dX0_add_51 rfl (lv_at hl 0 rfl) ?_
        exact x_ri E rfl rfl hf rfl I rfl dX0_add_52
      · replace hf := x_ifT hf c6
        exact hj41 _ _ _ hf I (lv_sub hl [0, 1] rfl)
set_option maxHeartbeats 4000000 in
set_option maxRecDepth 100000 in
theorem tX0_isOperator (l : Launch) (D : va_G) (cI cC cZ : ClassId) (p1 : Int32) (res : Int32) (hf : fX0_isOperator p1 = some res) : xC l yX0_isOperator wsX0_isOperator rmX0_isOperator D [.int p1] [] (fun _ => []) (xT cI cC cZ) (fun t => some (.int t)) res := by
  refine x_of (cc := cX0_isOperator) (maxL := 1) (ret := (some .boolean)) (by decide) rfl (Nat.le_of_ble_eq_true rfl) ?_
  intro p e s m args below meth c A Q ls S I E hl
  replace hl : lv_has ls 1 [(0, .int p1)] := hl
  replace hf := (fX0_isOperator_e _).symm.trans hf
  refine lv_iload_n S.1 S.2.1 dX0_isOperator_0 rfl (lv_at hl 0 rfl) ?_
  refine lv_bipush (v := 38) S.1 S.2.1 dX0_isOperator_1 (by decide) ?_
  refine lv_icmp_eq (tgt := 18) S.1 S.2.1 dX0_isOperator_3 (by decide) (fun c1 => ?_) (fun c1 => ?_)
  · replace hf := x_ifT hf c1
    refine lv_iconst (v := 1) S.1 S.2.1 dX0_isOperator_18 (by decide) ?_
    refine lv_goto (tgt := 23) S.1 S.2.1 dX0_isOperator_19 (by decide) ?_
    exact x_ri E rfl x_n1 hf rfl I rfl dX0_isOperator_23
  · replace hf := x_ifF hf c1
    refine lv_iload_n S.1 S.2.1 dX0_isOperator_6 rfl (lv_at hl 0 rfl) ?_
    refine lv_bipush (v := 124) S.1 S.2.1 dX0_isOperator_7 (by decide) ?_
    refine lv_icmp_eq (tgt := 18) S.1 S.2.1 dX0_isOperator_9 (by decide) (fun c2 => ?_) (fun c2 => ?_)
    · replace hf := x_ifT hf c2
      refine lv_iconst (v := 1) S.1 S.2.1 dX0_isOperator_18 (by decide) ?_
      refine lv_goto (tgt := 23) S.1 S.2.1 dX0_isOperator_19 (by decide) ?_
      exact x_ri E rfl x_n1 hf rfl I rfl dX0_isOperator_23
    · replace hf := x_ifF hf c2
      refine lv_iload_n S.1 S.2.1 dX0_isOperator_12 rfl (lv_at hl 0 rfl) ?_
      refine lv_bipush (v := 62) S.1 S.2.1 dX0_isOperator_13 (by decide) ?_
      refine lv_icmp_ne (tgt := 22) S.1 S.2.1 dX0_isOperator_15 (by decide) (fun c3 => ?_) (fun c3 => ?_)
      · replace hf := x_ifF hf c3
        refine lv_iconst (v := 0) S.1 S.2.1 dX0_isOperator_22 (by decide) ?_
        exact x_ri E rfl x_n0 hf rfl I rfl dX0_isOperator_23
      · replace hf := x_ifT hf c3
        refine lv_iconst (v := 1) S.1 S.2.1 dX0_isOperator_18 (by decide) ?_
        refine lv_goto (tgt := 23) S.1 S.2.1 dX0_isOperator_19 (by decide) ?_
        exact x_ri E rfl x_n1 hf rfl I rfl dX0_isOperator_23
set_option maxHeartbeats 4000000 in
set_option maxRecDepth 100000 in
theorem tX0_isAtom (l : Launch) (D : va_G) (cI cC cZ : ClassId) (p1 : Int32) (res : Int32) (hf : fX0_isAtom p1 = some res) : xC l yX0_isAtom wsX0_isAtom rmX0_isAtom D [.int p1] [] (fun _ => []) (xT cI cC cZ) (fun t => some (.int t)) res := by
  refine x_of (cc := cX0_isAtom) (maxL := 1) (ret := (some .boolean)) (by decide) rfl (Nat.le_of_ble_eq_true rfl) ?_
  intro p e s m args below meth c A Q ls S I E hl
  replace hl : lv_has ls 1 [(0, .int p1)] := hl
  replace hf := (fX0_isAtom_e _).symm.trans hf
  refine lv_iload_n S.1 S.2.1 dX0_isAtom_0 rfl (lv_at hl 0 rfl) ?_
  refine lv_bipush (v := 60) S.1 S.2.1 dX0_isAtom_1 (by decide) ?_
  refine lv_icmp_eq (tgt := 12) S.1 S.2.1 dX0_isAtom_3 (by decide) (fun c1 => ?_) (fun c1 => ?_)
  · replace hf := x_ifT hf c1
    refine lv_iconst (v := 1) S.1 S.2.1 dX0_isAtom_12 (by decide) ?_
    refine lv_goto (tgt := 17) S.1 S.2.1 dX0_isAtom_13 (by decide) ?_
    exact x_ri E rfl x_n1 hf rfl I rfl dX0_isAtom_17
  · replace hf := x_ifF hf c1
    refine lv_iload_n S.1 S.2.1 dX0_isAtom_6 rfl (lv_at hl 0 rfl) ?_
    refine lv_bipush (v := 61) S.1 S.2.1 dX0_isAtom_7 (by decide) ?_
    refine lv_icmp_ne (tgt := 16) S.1 S.2.1 dX0_isAtom_9 (by decide) (fun c2 => ?_) (fun c2 => ?_)
    · replace hf := x_ifF hf c2
      refine lv_iconst (v := 0) S.1 S.2.1 dX0_isAtom_16 (by decide) ?_
      exact x_ri E rfl x_n0 hf rfl I rfl dX0_isAtom_17
    · replace hf := x_ifT hf c2
      refine lv_iconst (v := 1) S.1 S.2.1 dX0_isAtom_12 (by decide) ?_
      refine lv_goto (tgt := 17) S.1 S.2.1 dX0_isAtom_13 (by decide) ?_
      exact x_ri E rfl x_n1 hf rfl I rfl dX0_isAtom_17
set_option maxHeartbeats 4000000 in
set_option maxRecDepth 100000 in
theorem tX0_bit (l : Launch) (D : va_G) (cI cC cZ : ClassId) (p1 : Int32) (res : Int32) (hf : fX0_bit p1 = some res) : xC l yX0_bit wsX0_bit rmX0_bit D [.int p1] [] (fun _ => []) (xT cI cC cZ) (fun t => some (.int t)) res := by
  refine x_of (cc := cX0_bit) (maxL := 1) (ret := (some .int)) (by decide) rfl (Nat.le_of_ble_eq_true rfl) ?_
  intro p e s m args below meth c A Q ls S I E hl
  replace hl : lv_has ls 1 [(0, .int p1)] := hl
  replace hf := (fX0_bit_e _).symm.trans hf
  refine lv_iconst (v := 1) S.1 S.2.1 dX0_bit_0 (by decide) ?_
  refine lv_iload_n S.1 S.2.1 dX0_bit_1 rfl (lv_at hl 0 rfl) ?_
  refine lv_ishl S.1 S.2.1 dX0_bit_2 ?_
  exact x_ri E rfl rfl hf rfl I rfl dX0_bit_3
set_option maxHeartbeats 4000000 in
set_option maxRecDepth 100000 in
theorem tX0_setWeight (l : Launch) (D : va_G) (cI cC cZ : ClassId) (h : Nat) (a : Nat → Nat) (F : xF) (G : xG) (p1 p2 p3 p4 : Int32) (res : xG) (hf : fX0_setWeight G p1 p2 p3 p4 = some res) : xC l yX0_setWeight wsX0_setWeight rmX0_setWeight D [.ref h, .int p1, .int p2, .int p3, .int p4] (wX0 cI cC cZ h a F G) (fun t => (wX0 cI cC cZ h a F t)) (xT cI cC cZ) (fun _ => none) res := by
  have kX0 : ∀ w ∈ u_ws RX0 TX0 11, w ∈ wsX0_setWeight := by decide +kernel
  refine x_of (cc := cX0_setWeight) (maxL := 5) (ret := none) (by decide) rfl (Nat.le_of_ble_eq_true rfl) ?_
  intro p e s m args below meth c A Q ls S I E hl
  replace hl : lv_has ls 5 [(0, .ref h), (1, .int p1), (2, .int p2), (3, .int p3), (4, .int p4)] := hl
  replace hf := (fX0_setWeight_e _ _ _ _ _).symm.trans hf
  refine lv_aload_n S.1 S.2.1 dX0_setWeight_0 rfl (lv_at hl 0 rfl) ?_
  refine x_get (C := RX0) (T := TX0) (N := 11) (ci := 0) (v := .ref (a 5)) S kX0 rfl I 0 5 rfl (by decide) (by decide +kernel) rfl dX0_setWeight_1 ?_
  refine lv_iload_n S.1 S.2.1 dX0_setWeight_4 rfl (lv_at hl 1 rfl) ?_
  refine lv_iload_n S.1 S.2.1 dX0_setWeight_5 rfl (lv_at hl 2 rfl) ?_
  obtain ⟨hi1, hf⟩ := x_ldE hf
  refine x_iast (f := (G 5)) (ws' := (wX0 cI cC cZ h a F (va_up G 5 (upd (G 5) p1.toNatClampNeg p2)))) S I 6 0 rfl rfl hi1 rfl dX0_setWeight_6 (fun H locs I => ?_)
  refine lv_aload_n S.1 S.2.1 dX0_setWeight_7 rfl (lv_at hl 0 rfl) ?_
  refine x_get (C := RX0) (T := TX0) (N := 11) (ci := 0) (v := .ref (a 6)) S kX0 rfl I 0 6 rfl (by decide) (by decide +kernel) rfl dX0_setWeight_8 ?_
  refine lv_iload_n S.1 S.2.1 dX0_setWeight_11 rfl (lv_at hl 1 rfl) ?_
  refine lv_iload_n S.1 S.2.1 dX0_setWeight_12 rfl (lv_at hl 3 rfl) ?_
  obtain ⟨hi2, hf⟩ := x_ldE hf
  refine x_iast (f := (G 6)) (ws' := (wX0 cI cC cZ h a F (va_up (va_up G 5 (upd (G 5) p1.toNatClampNeg p2)) 6 (upd (G 6) p1.toNatClampNeg p3)))) S I 7 0 rfl rfl hi2 rfl dX0_setWeight_13 (fun H locs I => ?_)
  refine lv_aload_n S.1 S.2.1 dX0_setWeight_14 rfl (lv_at hl 0 rfl) ?_
  refine x_get (C := RX0) (T := TX0) (N := 11) (ci := 0) (v := .ref (a 7)) S kX0 rfl I 0 7 rfl (by decide) (by decide +kernel) rfl dX0_setWeight_15 ?_
  refine lv_iload_n S.1 S.2.1 dX0_setWeight_18 rfl (lv_at hl 1 rfl) ?_
  refine lv_iload S.1 S.2.1 dX0_setWeight_19 (lv_at hl 4 rfl) ?_
  obtain ⟨hi3, hf⟩ := x_ldE hf
  refine x_iast (f := (G 7)) (ws' := (wX0 cI cC cZ h a F (va_up (va_up (va_up G 5 (upd (G 5) p1.toNatClampNeg p2)) 6 (upd (G 6) p1.toNatClampNeg p3)) 7 (upd (G 7) p1.toNatClampNeg p4)))) S I 8 0 rfl rfl hi3 rfl dX0_setWeight_21 (fun H locs I => ?_)
  exact x_rv E rfl hf rfl I rfl dX0_setWeight_22
set_option maxHeartbeats 4000000 in
set_option maxRecDepth 100000 in
theorem tX0_weighOperator (l : Launch) (D : va_G) (cI cC cZ : ClassId) (h : Nat) (a : Nat → Nat) (F : xF) (G : xG) (p1 p2 p3 : Int32) (res : xG) (hf : fX0_weighOperator G p1 p2 p3 = some res) : xC l yX0_weighOperator wsX0_weighOperator rmX0_weighOperator D [.ref h, .int p1, .int p2, .int p3] (wX0 cI cC cZ h a F G) (fun t => (wX0 cI cC cZ h a F t)) (xT cI cC cZ) (fun _ => none) res := by
  have kX0 : ∀ w ∈ u_ws RX0 TX0 11, w ∈ wsX0_weighOperator := by decide +kernel
  refine x_of (cc := cX0_weighOperator) (maxL := 7) (ret := none) (by decide) rfl (Nat.le_of_ble_eq_true rfl) ?_
  intro p e s m args below meth c A Q ls S I E hl
  replace hl : lv_has ls 7 [(0, .ref h), (1, .int p1), (2, .int p2), (3, .int p3)] := hl
  replace hf := (fX0_weighOperator_e _ _ _ _).symm.trans hf
  refine lv_aload_n S.1 S.2.1 dX0_weighOperator_0 rfl (lv_at hl 0 rfl) ?_
  refine x_get (C := RX0) (T := TX0) (N := 11) (ci := 0) (v := .ref (a 0)) S kX0 rfl I 0 0 rfl (by decide) (by decide +kernel) rfl dX0_weighOperator_1 ?_
  refine lv_iload_n S.1 S.2.1 dX0_weighOperator_4 rfl (lv_at hl 1 rfl) ?_
  obtain ⟨hi1, hf⟩ := x_ldE hf
  refine x_cald (f := (G 0)) S I 1 1 rfl rfl hi1 dX0_weighOperator_5 ?_
  refine lv_bipush (v := 62) S.1 S.2.1 dX0_weighOperator_6 (by decide) ?_
  have hj16 : ∀ (v2 : Int32) (H : Heap) (locs : List Loc) (ls : Array Slot), (fX0_weighOperator_j16 G p2 p3 p1) v2 = some res → xI D A s (wX0 cI cC cZ h a F G) (xT cI cC cZ) H locs → lv_has ls 7 [(0, .ref h), (1, .int p1), (2, .int p2), (3, .int p3)] → W p l e (headSpec wsX0_weighOperator rmX0_weighOperator).room s m args below meth c H locs 0 0 Q (F0 m 16 ls [.int v2]) := by
    intro v2 H locs ls hf I hl
    replace hf := (fX0_weighOperator_j16_e _ _ _ _ _).symm.trans hf
    refine lv_istore (lv' := [(4, .int v2), (0, .ref h), (1, .int p1), (2, .int p2), (3, .int p3)]) S.1 S.2.1 dX0_weighOperator_16 hl (by decide) rfl (fun ls hl => ?_)
    refine lv_iload S.1 S.2.1 dX0_weighOperator_18 (lv_at hl 0 rfl) ?_
    have hj38 : ∀ (v3 : Int32) (H : Heap) (locs : List Loc) (ls : Array Slot), (fX0_weighOperator_j38 G v2 p2 p3 p1) v3 = some res → xI D A s (wX0 cI cC cZ h a F G) (xT cI cC cZ) H locs → lv_has ls 7 [(4, .int v2), (0, .ref h), (1, .int p1), (2, .int p2), (3, .int p3)] → W p l e (headSpec wsX0_weighOperator rmX0_weighOperator).room s m args below meth c H locs 0 0 Q (F0 m 38 ls [.int v3]) := by
      intro v3 H locs ls hf I hl
      replace hf := (fX0_weighOperator_j38_e _ _ _ _ _ _).symm.trans hf
      refine lv_istore (lv' := [(5, .int v3), (4, .int v2), (0, .ref h), (1, .int p1), (2, .int p2), (3, .int p3)]) S.1 S.2.1 dX0_weighOperator_38 hl (by decide) rfl (fun ls hl => ?_)
      refine lv_iload S.1 S.2.1 dX0_weighOperator_40 (lv_at hl 1 rfl) ?_
      have hj60 : ∀ (v4 : Int32) (H : Heap) (locs : List Loc) (ls : Array Slot), (fX0_weighOperator_j60 G p3 p2 p1 v3) v4 = some res → xI D A s (wX0 cI cC cZ h a F G) (xT cI cC cZ) H locs → lv_has ls 7 [(5, .int v3), (0, .ref h), (1, .int p1), (2, .int p2), (3, .int p3)] → W p l e (headSpec wsX0_weighOperator rmX0_weighOperator).room s m args below meth c H locs 0 0 Q (F0 m 60 ls [.int v4]) := by
        intro v4 H locs ls hf I hl
        replace hf := (fX0_weighOperator_j60_e _ _ _ _ _ _).symm.trans hf
        refine lv_istore (lv' := [(6, .int v4), (5, .int v3), (0, .ref h), (1, .int p1), (2, .int p2), (3, .int p3)]) S.1 S.2.1 dX0_weighOperator_60 hl (by decide) rfl (fun ls hl => ?_)
        refine lv_aload_n S.1 S.2.1 dX0_weighOperator_62 rfl (lv_at hl 2 rfl) ?_
        refine lv_iload_n S.1 S.2.1 dX0_weighOperator_63 rfl (lv_at hl 3 rfl) ?_
        refine lv_iload S.1 S.2.1 dX0_weighOperator_64 (lv_at hl 1 rfl) ?_
        refine lv_aload_n S.1 S.2.1 dX0_weighOperator_66 rfl (lv_at hl 2 rfl) ?_
        refine x_get (C := RX0) (T := TX0) (N := 11) (ci := 0) (v := .ref (a 5)) S kX0 rfl I 0 5 rfl (by decide) (by decide +kernel) rfl dX0_weighOperator_67 ?_
        refine lv_iload_n S.1 S.2.1 dX0_weighOperator_70 rfl (lv_at hl 5 rfl) ?_
        obtain ⟨hi5, hf⟩ := x_ldE hf
        refine x_iald (f := (G 5)) S I 6 0 rfl rfl hi5 dX0_weighOperator_71 ?_
        refine va_mmax S.1 S.2.1 (S.2.2.1.trans hl.1.symm) S.2.2.2.1 (S.2.2.2.2 _ (by decide +kernel)) (S.2.2.2.2 _ (by decide +kernel)) (S.2.2.2.2 _ (by decide +kernel)) (S.2.2.2.2 _ (by decide +kernel)) (Nat.le_of_ble_eq_true rfl) (Nat.le_of_ble_eq_true rfl) (Nat.zero_le _) (Nat.zero_le _) dX0_weighOperator_72 ?_
        refine lv_iload S.1 S.2.1 dX0_weighOperator_75 (lv_at hl 0 rfl) ?_
        refine lv_aload_n S.1 S.2.1 dX0_weighOperator_77 rfl (lv_at hl 2 rfl) ?_
        refine x_get (C := RX0) (T := TX0) (N := 11) (ci := 0) (v := .ref (a 6)) S kX0 rfl I 0 6 rfl (by decide) (by decide +kernel) rfl dX0_weighOperator_78 ?_
        refine lv_iload_n S.1 S.2.1 dX0_weighOperator_81 rfl (lv_at hl 5 rfl) ?_
        obtain ⟨hi6, hf⟩ := x_ldE hf
        refine x_iald (f := (G 6)) S I 7 0 rfl rfl hi6 dX0_weighOperator_82 ?_
        refine va_mmax S.1 S.2.1 (S.2.2.1.trans hl.1.symm) S.2.2.2.1 (S.2.2.2.2 _ (by decide +kernel)) (S.2.2.2.2 _ (by decide +kernel)) (S.2.2.2.2 _ (by decide +kernel)) (S.2.2.2.2 _ (by decide +kernel)) (Nat.le_of_ble_eq_true rfl) (Nat.le_of_ble_eq_true rfl) (Nat.zero_le _) (Nat.zero_le _) dX0_weighOperator_83 ?_
        refine lv_aload_n S.1 S.2.1 dX0_weighOperator_86 rfl (lv_at hl 2 rfl) ?_
        refine x_get (C := RX0) (T := TX0) (N := 11) (ci := 0) (v := .ref (a 7)) S kX0 rfl I 0 7 rfl (by decide) (by decide +kernel) rfl dX0_weighOperator_87 ?_
        refine lv_iload_n S.1 S.2.1 dX0_weighOperator_90 rfl (lv_at hl 4 rfl) ?_
        obtain ⟨hi7, hf⟩ := x_ldE hf
        refine x_iald (f := (G 7)) S I 8 0 rfl rfl hi7 dX0_weighOperator_91 ?_
        refine lv_aload_n S.1 S.2.1 dX0_weighOperator_92 rfl (lv_at hl 2 rfl) ?_
        refine x_get (C := RX0) (T := TX0) (N := 11) (ci := 0) (v := .ref (a 7)) S kX0 rfl I 0 7 rfl (by decide) (by decide +kernel) rfl dX0_weighOperator_93 ?_
        refine lv_iload_n S.1 S.2.1 dX0_weighOperator_96 rfl (lv_at hl 5 rfl) ?_
        obtain ⟨hi8, hf⟩ := x_ldE hf
        refine x_iald (f := (G 7)) S I 8 0 rfl rfl hi8 dX0_weighOperator_97 ?_
        refine lv_ior S.1 S.2.1 dX0_weighOperator_98 ?_
        obtain ⟨G10, hg9, hf⟩ := x_b1E hf
        refine x_cA (As := [.int p1, .int (x_max v3 ((G 5) p3.toNatClampNeg)), .int (x_max v4 ((G 6) p3.toNatClampNeg)), .int (((G 7) p2.toNatClampNeg) ||| ((G 7) p3.toNatClampNeg))]) (rest := []) (st' := []) (ws' := (wX0 cI cC cZ h a F G10)) S I (tX0_setWeight l D cI cC cZ h a F G p1 (x_max v3 ((G 5) p3.toNatClampNeg)) (x_max v4 ((G 6) p3.toNatClampNeg)) (((G 7) p2.toNatClampNeg) ||| ((G 7) p3.toNatClampNeg)) G10 hg9) (cwV 4 S.2.2.2.2 gX0_weighOperator_X0_setWeight rfl rfl rfl (by decide +kernel) ⟨Nat.le_of_ble_eq_true rfl, Nat.le_of_ble_eq_true rfl⟩) 0 0 rfl rfl rfl rfl hl rfl (Nat.le_of_ble_eq_true rfl) ⟨Nat.zero_le _, Nat.zero_le _⟩ rfl dX0_weighOperator_99 (fun H locs I => ?_)
        exact x_rv E rfl hf rfl I rfl dX0_weighOperator_102
      refine lv_if_eq (tgt := 54) S.1 S.2.1 dX0_weighOperator_42 (by decide) (fun c11 => ?_) (fun c11 => ?_)
      · replace hf := x_ifT hf c11
        refine lv_aload_n S.1 S.2.1 dX0_weighOperator_54 rfl (lv_at hl 2 rfl) ?_
        refine x_get (C := RX0) (T := TX0) (N := 11) (ci := 0) (v := .ref (a 6)) S kX0 rfl I 0 6 rfl (by decide) (by decide +kernel) rfl dX0_weighOperator_55 ?_
        refine lv_iload_n S.1 S.2.1 dX0_weighOperator_58 rfl (lv_at hl 4 rfl) ?_
        obtain ⟨hi12, hf⟩ := x_ldE hf
        refine x_iald (f := (G 6)) S I 7 0 rfl rfl hi12 dX0_weighOperator_59 ?_
        exact hj60 ((G 6) p2.toNatClampNeg) _ _ _ hf I (lv_sub hl [0, 2, 3, 4, 5] rfl)
      · replace hf := x_ifF hf c11
        refine lv_aload_n S.1 S.2.1 dX0_weighOperator_45 rfl (lv_at hl 2 rfl) ?_
        refine x_get (C := RX0) (T := TX0) (N := 11) (ci := 0) (v := .ref (a 5)) S kX0 rfl I 0 5 rfl (by decide) (by decide +kernel) rfl dX0_weighOperator_46 ?_
        refine lv_iload_n S.1 S.2.1 dX0_weighOperator_49 rfl (lv_at hl 4 rfl) ?_
        obtain ⟨hi13, hf⟩ := x_ldE hf
        refine x_iald (f := (G 5)) S I 6 0 rfl rfl hi13 dX0_weighOperator_50 ?_
        refine lv_goto (tgt := 60) S.1 S.2.1 dX0_weighOperator_51 (by decide) ?_
        exact hj60 ((G 5) p2.toNatClampNeg) _ _ _ hf I (lv_sub hl [0, 2, 3, 4, 5] rfl)
    refine lv_if_eq (tgt := 32) S.1 S.2.1 dX0_weighOperator_20 (by decide) (fun c14 => ?_) (fun c14 => ?_)
    · replace hf := x_ifT hf c14
      refine lv_aload_n S.1 S.2.1 dX0_weighOperator_32 rfl (lv_at hl 1 rfl) ?_
      refine x_get (C := RX0) (T := TX0) (N := 11) (ci := 0) (v := .ref (a 5)) S kX0 rfl I 0 5 rfl (by decide) (by decide +kernel) rfl dX0_weighOperator_33 ?_
      refine lv_iload_n S.1 S.2.1 dX0_weighOperator_36 rfl (lv_at hl 3 rfl) ?_
      obtain ⟨hi15, hf⟩ := x_ldE hf
      refine x_iald (f := (G 5)) S I 6 0 rfl rfl hi15 dX0_weighOperator_37 ?_
      exact hj38 ((G 5) p2.toNatClampNeg) _ _ _ hf I (lv_sub hl [0, 1, 2, 3, 4] rfl)
    · replace hf := x_ifF hf c14
      refine lv_aload_n S.1 S.2.1 dX0_weighOperator_23 rfl (lv_at hl 1 rfl) ?_
      refine x_get (C := RX0) (T := TX0) (N := 11) (ci := 0) (v := .ref (a 6)) S kX0 rfl I 0 6 rfl (by decide) (by decide +kernel) rfl dX0_weighOperator_24 ?_
      refine lv_iload_n S.1 S.2.1 dX0_weighOperator_27 rfl (lv_at hl 3 rfl) ?_
      obtain ⟨hi16, hf⟩ := x_ldE hf
      refine x_iald (f := (G 6)) S I 7 0 rfl rfl hi16 dX0_weighOperator_28 ?_
      refine lv_goto (tgt := 38) S.1 S.2.1 dX0_weighOperator_29 (by decide) ?_
      exact hj38 ((G 6) p2.toNatClampNeg) _ _ _ hf I (lv_sub hl [0, 1, 2, 3, 4] rfl)
  refine lv_icmp_ne (tgt := 15) S.1 S.2.1 dX0_weighOperator_8 (by decide) (fun c17 => ?_) (fun c17 => ?_)
  · replace hf := x_ifF hf c17
    refine lv_iconst (v := 0) S.1 S.2.1 dX0_weighOperator_15 (by decide) ?_
    exact hj16 0 _ _ _ hf I (lv_sub hl [0, 1, 2, 3] rfl)
  · replace hf := x_ifT hf c17
    refine lv_iconst (v := 1) S.1 S.2.1 dX0_weighOperator_11 (by decide) ?_
    refine lv_goto (tgt := 16) S.1 S.2.1 dX0_weighOperator_12 (by decide) ?_
    exact hj16 1 _ _ _ hf I (lv_sub hl [0, 1, 2, 3] rfl)
set_option maxHeartbeats 4000000 in
set_option maxRecDepth 100000 in
theorem tX0_weighQuantifier (l : Launch) (D : va_G) (cI cC cZ : ClassId) (h : Nat) (a : Nat → Nat) (F : xF) (G : xG) (p1 p2 : Int32) (res : xG) (hf : fX0_weighQuantifier G p1 p2 = some res) : xC l yX0_weighQuantifier wsX0_weighQuantifier rmX0_weighQuantifier D [.ref h, .int p1, .int p2] (wX0 cI cC cZ h a F G) (fun t => (wX0 cI cC cZ h a F t)) (xT cI cC cZ) (fun _ => none) res := by
  have kX0 : ∀ w ∈ u_ws RX0 TX0 11, w ∈ wsX0_weighQuantifier := by decide +kernel
  refine x_of (cc := cX0_weighQuantifier) (maxL := 6) (ret := none) (by decide) rfl (Nat.le_of_ble_eq_true rfl) ?_
  intro p e s m args below meth c A Q ls S I E hl
  replace hl : lv_has ls 6 [(0, .ref h), (1, .int p1), (2, .int p2)] := hl
  replace hf := (fX0_weighQuantifier_e _ _ _).symm.trans hf
  refine lv_aload_n S.1 S.2.1 dX0_weighQuantifier_0 rfl (lv_at hl 0 rfl) ?_
  refine x_get (C := RX0) (T := TX0) (N := 11) (ci := 0) (v := .ref (a 7)) S kX0 rfl I 0 7 rfl (by decide) (by decide +kernel) rfl dX0_weighQuantifier_1 ?_
  refine lv_iload_n S.1 S.2.1 dX0_weighQuantifier_4 rfl (lv_at hl 2 rfl) ?_
  obtain ⟨hi1, hf⟩ := x_ldE hf
  refine x_iald (f := (G 7)) S I 8 0 rfl rfl hi1 dX0_weighQuantifier_5 ?_
  refine lv_aload_n S.1 S.2.1 dX0_weighQuantifier_6 rfl (lv_at hl 0 rfl) ?_
  refine x_get (C := RX0) (T := TX0) (N := 11) (ci := 0) (v := .ref (a 1)) S kX0 rfl I 0 1 rfl (by decide) (by decide +kernel) rfl dX0_weighQuantifier_7 ?_
  refine lv_iload_n S.1 S.2.1 dX0_weighQuantifier_10 rfl (lv_at hl 1 rfl) ?_
  obtain ⟨hi2, hf⟩ := x_ldE hf
  refine x_iald (f := (G 1)) S I 2 0 rfl rfl hi2 dX0_weighQuantifier_11 ?_
  obtain ⟨r4, hg3, hf⟩ := x_b1E hf
  refine x_c0 (As := [.int ((G 1) p1.toNatClampNeg)]) (rest := [.int ((G 7) p2.toNatClampNeg)]) (st' := [.int r4, .int ((G 7) p2.toNatClampNeg)]) S I rfl (tX0_bit l D cI cC cZ ((G 1) p1.toNatClampNeg) r4 hg3) (va_cwS 1 S.2.2.2.2 gX0_weighQuantifier_X0_bit rfl rfl rfl (by decide +kernel) ⟨Nat.le_of_ble_eq_true rfl, Nat.le_of_ble_eq_true rfl⟩) hl rfl (Nat.le_of_ble_eq_true rfl) ⟨Nat.zero_le _, Nat.zero_le _⟩ rfl dX0_weighQuantifier_12 (fun H locs I => ?_)
  refine lv_iconst (v := (-1)) S.1 S.2.1 dX0_weighQuantifier_15 (by decide) ?_
  refine lv_ixor S.1 S.2.1 dX0_weighQuantifier_16 ?_
  refine lv_iand S.1 S.2.1 dX0_weighQuantifier_17 ?_
  refine lv_istore_n (lv' := [(3, .int (((G 7) p2.toNatClampNeg) &&& (r4 ^^^ (-1)))), (0, .ref h), (1, .int p1), (2, .int p2)]) S.1 S.2.1 dX0_weighQuantifier_18 rfl hl (by decide) rfl (fun ls hl => ?_)
  refine lv_aload_n S.1 S.2.1 dX0_weighQuantifier_19 rfl (lv_at hl 1 rfl) ?_
  refine x_get (C := RX0) (T := TX0) (N := 11) (ci := 0) (v := .ref (a 5)) S kX0 rfl I 0 5 rfl (by decide) (by decide +kernel) rfl dX0_weighQuantifier_20 ?_
  refine lv_iload_n S.1 S.2.1 dX0_weighQuantifier_23 rfl (lv_at hl 3 rfl) ?_
  obtain ⟨hi5, hf⟩ := x_ldE hf
  refine x_iald (f := (G 5)) S I 6 0 rfl rfl hi5 dX0_weighQuantifier_24 ?_
  refine lv_istore (lv' := [(4, .int ((G 5) p2.toNatClampNeg)), (3, .int (((G 7) p2.toNatClampNeg) &&& (r4 ^^^ (-1)))), (0, .ref h), (1, .int p1), (2, .int p2)]) S.1 S.2.1 dX0_weighQuantifier_25 hl (by decide) rfl (fun ls hl => ?_)
  refine lv_aload_n S.1 S.2.1 dX0_weighQuantifier_27 rfl (lv_at hl 2 rfl) ?_
  refine x_get (C := RX0) (T := TX0) (N := 11) (ci := 0) (v := .ref (a 6)) S kX0 rfl I 0 6 rfl (by decide) (by decide +kernel) rfl dX0_weighQuantifier_28 ?_
  refine lv_iload_n S.1 S.2.1 dX0_weighQuantifier_31 rfl (lv_at hl 4 rfl) ?_
  obtain ⟨hi6, hf⟩ := x_ldE hf
  refine x_iald (f := (G 6)) S I 7 0 rfl rfl hi6 dX0_weighQuantifier_32 ?_
  refine lv_istore (lv' := [(5, .int ((G 6) p2.toNatClampNeg)), (4, .int ((G 5) p2.toNatClampNeg)), (3, .int (((G 7) p2.toNatClampNeg) &&& (r4 ^^^ (-1)))), (0, .ref h), (1, .int p1), (2, .int p2)]) S.1 S.2.1 dX0_weighQuantifier_33 hl (by decide) rfl (fun ls hl => ?_)
  refine lv_aload_n S.1 S.2.1 dX0_weighQuantifier_35 rfl (lv_at hl 3 rfl) ?_
  refine x_get (C := RX0) (T := TX0) (N := 11) (ci := 0) (v := .ref (a 0)) S kX0 rfl I 0 0 rfl (by decide) (by decide +kernel) rfl dX0_weighQuantifier_36 ?_
  refine lv_iload_n S.1 S.2.1 dX0_weighQuantifier_39 rfl (lv_at hl 4 rfl) ?_
  obtain ⟨hi7, hf⟩ := x_ldE hf
  refine x_cald (f := (G 0)) S I 1 1 rfl rfl hi7 dX0_weighQuantifier_40 ?_
  by_cases c8 : ((G 0) p1.toNatClampNeg) = 65
  · replace hf := x_ifT hf c8
    refine lv_lookup (off := 57) (tgt := 98) S.1 S.2.1 dX0_weighQuantifier_41 (by decide) (by rw [c8]; rfl) (by decide) ?_
    refine lv_iload S.1 S.2.1 dX0_weighQuantifier_98 (lv_at hl 0 rfl) ?_
    refine lv_iconst (v := 1) S.1 S.2.1 dX0_weighQuantifier_100 (by decide) ?_
    refine va_mmax S.1 S.2.1 (S.2.2.1.trans hl.1.symm) S.2.2.2.1 (S.2.2.2.2 _ (by decide +kernel)) (S.2.2.2.2 _ (by decide +kernel)) (S.2.2.2.2 _ (by decide +kernel)) (S.2.2.2.2 _ (by decide +kernel)) (Nat.le_of_ble_eq_true rfl) (Nat.le_of_ble_eq_true rfl) (Nat.zero_le _) (Nat.zero_le _) dX0_weighQuantifier_101 ?_
    refine lv_iload S.1 S.2.1 dX0_weighQuantifier_104 (lv_at hl 1 rfl) ?_
    refine lv_iconst (v := 1) S.1 S.2.1 dX0_weighQuantifier_106 (by decide) ?_
    refine lv_iadd S.1 S.2.1 dX0_weighQuantifier_107 ?_
    refine va_mmin S.1 S.2.1 (S.2.2.1.trans hl.1.symm) S.2.2.2.1 (S.2.2.2.2 _ (by decide +kernel)) (S.2.2.2.2 _ (by decide +kernel)) (S.2.2.2.2 _ (by decide +kernel)) (S.2.2.2.2 _ (by decide +kernel)) (Nat.le_of_ble_eq_true rfl) (Nat.le_of_ble_eq_true rfl) (Nat.zero_le _) (Nat.zero_le _) dX0_weighQuantifier_108 ?_
    refine lv_istore (lv' := [(5, .int (x_min (x_max ((G 6) p2.toNatClampNeg) 1) (((G 5) p2.toNatClampNeg) + 1))), (4, .int ((G 5) p2.toNatClampNeg)), (3, .int (((G 7) p2.toNatClampNeg) &&& (r4 ^^^ (-1)))), (0, .ref h), (1, .int p1), (2, .int p2)]) S.1 S.2.1 dX0_weighQuantifier_111 hl (by decide) rfl (fun ls hl => ?_)
    refine lv_aload_n S.1 S.2.1 dX0_weighQuantifier_113 rfl (lv_at hl 3 rfl) ?_
    refine lv_iload_n S.1 S.2.1 dX0_weighQuantifier_114 rfl (lv_at hl 4 rfl) ?_
    refine lv_iload S.1 S.2.1 dX0_weighQuantifier_115 (lv_at hl 0 rfl) ?_
    refine lv_iconst (v := 1) S.1 S.2.1 dX0_weighQuantifier_117 (by decide) ?_
    refine lv_iadd S.1 S.2.1 dX0_weighQuantifier_118 ?_
    refine lv_iload S.1 S.2.1 dX0_weighQuantifier_119 (lv_at hl 0 rfl) ?_
    refine lv_iload_n S.1 S.2.1 dX0_weighQuantifier_121 rfl (lv_at hl 2 rfl) ?_
    obtain ⟨G10, hg9, hf⟩ := x_b1E hf
    refine x_cA (As := [.int p1, .int ((x_min (x_max ((G 6) p2.toNatClampNeg) 1) (((G 5) p2.toNatClampNeg) + 1)) + 1), .int (x_min (x_max ((G 6) p2.toNatClampNeg) 1) (((G 5) p2.toNatClampNeg) + 1)), .int (((G 7) p2.toNatClampNeg) &&& (r4 ^^^ (-1)))]) (rest := []) (st' := []) (ws' := (wX0 cI cC cZ h a F G10)) S I (tX0_setWeight l D cI cC cZ h a F G p1 ((x_min (x_max ((G 6) p2.toNatClampNeg) 1) (((G 5) p2.toNatClampNeg) + 1)) + 1) (x_min (x_max ((G 6) p2.toNatClampNeg) 1) (((G 5) p2.toNatClampNeg) + 1)) (((G 7) p2.toNatClampNeg) &&& (r4 ^^^ (-1))) G10 hg9) (cwV 4 S.2.2.2.2 gX0_weighQuantifier_X0_setWeight rfl rfl rfl (by decide +kernel) ⟨Nat.le_of_ble_eq_true rfl, Nat.le_of_ble_eq_true rfl⟩) 0 0 rfl rfl rfl rfl hl rfl (Nat.le_of_ble_eq_true rfl) ⟨Nat.zero_le _, Nat.zero_le _⟩ rfl dX0_weighQuantifier_122 (fun H locs I => ?_)
    refine lv_goto (tgt := 148) S.1 S.2.1 dX0_weighQuantifier_125 (by decide) ?_
    exact x_rv E rfl hf rfl I rfl dX0_weighQuantifier_148
  · replace hf := x_ifF hf c8
    by_cases c11 : ((G 0) p1.toNatClampNeg) = 69
    · replace hf := x_ifT hf c11
      refine lv_lookup (off := 27) (tgt := 68) S.1 S.2.1 dX0_weighQuantifier_41 (by decide) ((lv_osw c8 (by decide)).trans (by rw [c11]; rfl)) (by decide) ?_
      refine lv_iload S.1 S.2.1 dX0_weighQuantifier_68 (lv_at hl 1 rfl) ?_
      refine lv_iconst (v := 1) S.1 S.2.1 dX0_weighQuantifier_70 (by decide) ?_
      refine va_mmax S.1 S.2.1 (S.2.2.1.trans hl.1.symm) S.2.2.2.1 (S.2.2.2.2 _ (by decide +kernel)) (S.2.2.2.2 _ (by decide +kernel)) (S.2.2.2.2 _ (by decide +kernel)) (S.2.2.2.2 _ (by decide +kernel)) (Nat.le_of_ble_eq_true rfl) (Nat.le_of_ble_eq_true rfl) (Nat.zero_le _) (Nat.zero_le _) dX0_weighQuantifier_71 ?_
      refine lv_iload S.1 S.2.1 dX0_weighQuantifier_74 (lv_at hl 0 rfl) ?_
      refine lv_iconst (v := 1) S.1 S.2.1 dX0_weighQuantifier_76 (by decide) ?_
      refine lv_iadd S.1 S.2.1 dX0_weighQuantifier_77 ?_
      refine va_mmin S.1 S.2.1 (S.2.2.1.trans hl.1.symm) S.2.2.2.1 (S.2.2.2.2 _ (by decide +kernel)) (S.2.2.2.2 _ (by decide +kernel)) (S.2.2.2.2 _ (by decide +kernel)) (S.2.2.2.2 _ (by decide +kernel)) (Nat.le_of_ble_eq_true rfl) (Nat.le_of_ble_eq_true rfl) (Nat.zero_le _) (Nat.zero_le _) dX0_weighQuantifier_78 ?_
      refine lv_istore (lv' := [(4, .int (x_min (x_max ((G 5) p2.toNatClampNeg) 1) (((G 6) p2.toNatClampNeg) + 1))), (5, .int ((G 6) p2.toNatClampNeg)), (3, .int (((G 7) p2.toNatClampNeg) &&& (r4 ^^^ (-1)))), (0, .ref h), (1, .int p1), (2, .int p2)]) S.1 S.2.1 dX0_weighQuantifier_81 hl (by decide) rfl (fun ls hl => ?_)
      refine lv_aload_n S.1 S.2.1 dX0_weighQuantifier_83 rfl (lv_at hl 3 rfl) ?_
      refine lv_iload_n S.1 S.2.1 dX0_weighQuantifier_84 rfl (lv_at hl 4 rfl) ?_
      refine lv_iload S.1 S.2.1 dX0_weighQuantifier_85 (lv_at hl 0 rfl) ?_
      refine lv_iload S.1 S.2.1 dX0_weighQuantifier_87 (lv_at hl 0 rfl) ?_
      refine lv_iconst (v := 1) S.1 S.2.1 dX0_weighQuantifier_89 (by decide) ?_
      refine lv_iadd S.1 S.2.1 dX0_weighQuantifier_90 ?_
      refine lv_iload_n S.1 S.2.1 dX0_weighQuantifier_91 rfl (lv_at hl 2 rfl) ?_
      obtain ⟨G13, hg12, hf⟩ := x_b1E hf
      refine x_cA (As := [.int p1, .int (x_min (x_max ((G 5) p2.toNatClampNeg) 1) (((G 6) p2.toNatClampNeg) + 1)), .int ((x_min (x_max ((G 5) p2.toNatClampNeg) 1) (((G 6) p2.toNatClampNeg) + 1)) + 1), .int (((G 7) p2.toNatClampNeg) &&& (r4 ^^^ (-1)))]) (rest := []) (st' := []) (ws' := (wX0 cI cC cZ h a F G13)) S I (tX0_setWeight l D cI cC cZ h a F G p1 (x_min (x_max ((G 5) p2.toNatClampNeg) 1) (((G 6) p2.toNatClampNeg) + 1)) ((x_min (x_max ((G 5) p2.toNatClampNeg) 1) (((G 6) p2.toNatClampNeg) + 1)) + 1) (((G 7) p2.toNatClampNeg) &&& (r4 ^^^ (-1))) G13 hg12) (cwV 4 S.2.2.2.2 gX0_weighQuantifier_X0_setWeight rfl rfl rfl (by decide +kernel) ⟨Nat.le_of_ble_eq_true rfl, Nat.le_of_ble_eq_true rfl⟩) 0 0 rfl rfl rfl rfl hl rfl (Nat.le_of_ble_eq_true rfl) ⟨Nat.zero_le _, Nat.zero_le _⟩ rfl dX0_weighQuantifier_92 (fun H locs I => ?_)
      refine lv_goto (tgt := 148) S.1 S.2.1 dX0_weighQuantifier_95 (by decide) ?_
      exact x_rv E rfl hf rfl I rfl dX0_weighQuantifier_148
    · replace hf := x_ifF hf c11
      refine lv_lookup (off := 87) (tgt := 128) S.1 S.2.1 dX0_weighQuantifier_41 (by decide) ((lv_osw c8 (by decide)).trans ((lv_osw c11 (by decide)).trans (rfl))) (by decide) ?_
      refine lv_aload_n S.1 S.2.1 dX0_weighQuantifier_128 rfl (lv_at hl 3 rfl) ?_
      refine lv_iload_n S.1 S.2.1 dX0_weighQuantifier_129 rfl (lv_at hl 4 rfl) ?_
      refine lv_iload S.1 S.2.1 dX0_weighQuantifier_130 (lv_at hl 1 rfl) ?_
      refine lv_iload S.1 S.2.1 dX0_weighQuantifier_132 (lv_at hl 0 rfl) ?_
      refine lv_iload_n S.1 S.2.1 dX0_weighQuantifier_134 rfl (lv_at hl 2 rfl) ?_
      refine lv_aload_n S.1 S.2.1 dX0_weighQuantifier_135 rfl (lv_at hl 3 rfl) ?_
      refine x_get (C := RX0) (T := TX0) (N := 11) (ci := 0) (v := .ref (a 2)) S kX0 rfl I 0 2 rfl (by decide) (by decide +kernel) rfl dX0_weighQuantifier_136 ?_
      refine lv_iload_n S.1 S.2.1 dX0_weighQuantifier_139 rfl (lv_at hl 4 rfl) ?_
      obtain ⟨hi14, hf⟩ := x_ldE hf
      refine x_iald (f := (G 2)) S I 3 0 rfl rfl hi14 dX0_weighQuantifier_140 ?_
      obtain ⟨r16, hg15, hf⟩ := x_b1E hf
      refine x_c0 (As := [.int ((G 2) p1.toNatClampNeg)]) (rest := [.int (((G 7) p2.toNatClampNeg) &&& (r4 ^^^ (-1))), .int ((G 6) p2.toNatClampNeg), .int ((G 5) p2.toNatClampNeg), .int p1, .ref h]) (st' := [.int r16, .int (((G 7) p2.toNatClampNeg) &&& (r4 ^^^ (-1))), .int ((G 6) p2.toNatClampNeg), .int ((G 5) p2.toNatClampNeg), .int p1, .ref h]) S I rfl (tX0_bit l D cI cC cZ ((G 2) p1.toNatClampNeg) r16 hg15) (va_cwS 1 S.2.2.2.2 gX0_weighQuantifier_X0_bit rfl rfl rfl (by decide +kernel) ⟨Nat.le_of_ble_eq_true rfl, Nat.le_of_ble_eq_true rfl⟩) hl rfl (Nat.le_of_ble_eq_true rfl) ⟨Nat.zero_le _, Nat.zero_le _⟩ rfl dX0_weighQuantifier_141 (fun H locs I => ?_)
      refine lv_ior S.1 S.2.1 dX0_weighQuantifier_144 ?_
      obtain ⟨G18, hg17, hf⟩ := x_b1E hf
      refine x_cA (As := [.int p1, .int ((G 5) p2.toNatClampNeg), .int ((G 6) p2.toNatClampNeg), .int ((((G 7) p2.toNatClampNeg) &&& (r4 ^^^ (-1))) ||| r16)]) (rest := []) (st' := []) (ws' := (wX0 cI cC cZ h a F G18)) S I (tX0_setWeight l D cI cC cZ h a F G p1 ((G 5) p2.toNatClampNeg) ((G 6) p2.toNatClampNeg) ((((G 7) p2.toNatClampNeg) &&& (r4 ^^^ (-1))) ||| r16) G18 hg17) (cwV 4 S.2.2.2.2 gX0_weighQuantifier_X0_setWeight rfl rfl rfl (by decide +kernel) ⟨Nat.le_of_ble_eq_true rfl, Nat.le_of_ble_eq_true rfl⟩) 0 0 rfl rfl rfl rfl hl rfl (Nat.le_of_ble_eq_true rfl) ⟨Nat.zero_le _, Nat.zero_le _⟩ rfl dX0_weighQuantifier_145 (fun H locs I => ?_)
      exact x_rv E rfl hf rfl I rfl dX0_weighQuantifier_148
set_option maxHeartbeats 4000000 in
set_option maxRecDepth 100000 in
theorem tX0_weigh (l : Launch) (D : va_G) (cI cC cZ : ClassId) (h : Nat) (a : Nat → Nat) (F : xF) (G : xG) (p1 : Int32) (res : xG) (hf : fX0_weigh G p1 = some res) : xC l yX0_weigh wsX0_weigh rmX0_weigh D [.ref h, .int p1] (wX0 cI cC cZ h a F G) (fun t => (wX0 cI cC cZ h a F t)) (xT cI cC cZ) (fun _ => none) res := by
  have kX0 : ∀ w ∈ u_ws RX0 TX0 11, w ∈ wsX0_weigh := by decide +kernel
  refine x_of (cc := cX0_weigh) (maxL := 4) (ret := none) (by decide) rfl (Nat.le_of_ble_eq_true rfl) ?_
  intro p e s m args below meth c A Q ls S I E hl
  replace hl : lv_has ls 4 [(0, .ref h), (1, .int p1)] := hl
  replace hf := (fX0_weigh_e _ _).symm.trans hf
  refine lv_aload_n S.1 S.2.1 dX0_weigh_0 rfl (lv_at hl 0 rfl) ?_
  refine x_get (C := RX0) (T := TX0) (N := 11) (ci := 0) (v := .ref (a 0)) S kX0 rfl I 0 0 rfl (by decide) (by decide +kernel) rfl dX0_weigh_1 ?_
  refine lv_iload_n S.1 S.2.1 dX0_weigh_4 rfl (lv_at hl 1 rfl) ?_
  obtain ⟨hi1, hf⟩ := x_ldE hf
  refine x_cald (f := (G 0)) S I 1 1 rfl rfl hi1 dX0_weigh_5 ?_
  refine lv_istore_n (lv' := [(2, .int ((G 0) p1.toNatClampNeg)), (0, .ref h), (1, .int p1)]) S.1 S.2.1 dX0_weigh_6 rfl hl (by decide) rfl (fun ls hl => ?_)
  refine lv_iload_n S.1 S.2.1 dX0_weigh_7 rfl (lv_at hl 0 rfl) ?_
  obtain ⟨r3, hg2, hf⟩ := x_b1E hf
  refine x_c0 (As := [.int ((G 0) p1.toNatClampNeg)]) (rest := []) (st' := [.int r3]) S I rfl (tX0_isAtom l D cI cC cZ ((G 0) p1.toNatClampNeg) r3 hg2) (va_cwS 1 S.2.2.2.2 gX0_weigh_X0_isAtom rfl rfl rfl (by decide +kernel) ⟨Nat.le_of_ble_eq_true rfl, Nat.le_of_ble_eq_true rfl⟩) hl rfl (Nat.le_of_ble_eq_true rfl) ⟨Nat.zero_le _, Nat.zero_le _⟩ rfl dX0_weigh_8 (fun H locs I => ?_)
  refine lv_if_eq (tgt := 43) S.1 S.2.1 dX0_weigh_11 (by decide) (fun c4 => ?_) (fun c4 => ?_)
  · replace hf := x_ifT hf c4
    refine lv_iload_n S.1 S.2.1 dX0_weigh_43 rfl (lv_at hl 0 rfl) ?_
    obtain ⟨r6, hg5, hf⟩ := x_b1E hf
    refine x_c0 (As := [.int ((G 0) p1.toNatClampNeg)]) (rest := []) (st' := [.int r6]) S I rfl (tX0_isOperator l D cI cC cZ ((G 0) p1.toNatClampNeg) r6 hg5) (va_cwS 1 S.2.2.2.2 gX0_weigh_X0_isOperator rfl rfl rfl (by decide +kernel) ⟨Nat.le_of_ble_eq_true rfl, Nat.le_of_ble_eq_true rfl⟩) hl rfl (Nat.le_of_ble_eq_true rfl) ⟨Nat.zero_le _, Nat.zero_le _⟩ rfl dX0_weigh_44 (fun H locs I => ?_)
    refine lv_if_eq (tgt := 70) S.1 S.2.1 dX0_weigh_47 (by decide) (fun c7 => ?_) (fun c7 => ?_)
    · replace hf := x_ifT hf c7
      refine lv_iload_n S.1 S.2.1 dX0_weigh_70 rfl (lv_at hl 0 rfl) ?_
      refine lv_bipush (v := 33) S.1 S.2.1 dX0_weigh_71 (by decide) ?_
      refine lv_icmp_ne (tgt := 109) S.1 S.2.1 dX0_weigh_73 (by decide) (fun c8 => ?_) (fun c8 => ?_)
      · replace hf := x_ifF hf c8
        refine lv_aload_n S.1 S.2.1 dX0_weigh_109 rfl (lv_at hl 1 rfl) ?_
        refine lv_iload_n S.1 S.2.1 dX0_weigh_110 rfl (lv_at hl 2 rfl) ?_
        refine lv_aload_n S.1 S.2.1 dX0_weigh_111 rfl (lv_at hl 1 rfl) ?_
        refine x_get (C := RX0) (T := TX0) (N := 11) (ci := 0) (v := .ref (a 3)) S kX0 rfl I 0 3 rfl (by decide) (by decide +kernel) rfl dX0_weigh_112 ?_
        refine lv_iload_n S.1 S.2.1 dX0_weigh_115 rfl (lv_at hl 2 rfl) ?_
        obtain ⟨hi9, hf⟩ := x_ldE hf
        refine x_iald (f := (G 3)) S I 4 0 rfl rfl hi9 dX0_weigh_116 ?_
        obtain ⟨G11, hg10, hf⟩ := x_b1E hf
        refine x_cA (As := [.int p1, .int ((G 3) p1.toNatClampNeg)]) (rest := []) (st' := []) (ws' := (wX0 cI cC cZ h a F G11)) S I (tX0_weighQuantifier l D cI cC cZ h a F G p1 ((G 3) p1.toNatClampNeg) G11 hg10) (cwV 2 S.2.2.2.2 gX0_weigh_X0_weighQuantifier rfl rfl rfl (by decide +kernel) ⟨Nat.le_of_ble_eq_true rfl, Nat.le_of_ble_eq_true rfl⟩) 0 0 rfl rfl rfl rfl hl rfl (Nat.le_of_ble_eq_true rfl) ⟨Nat.zero_le _, Nat.zero_le _⟩ rfl dX0_weigh_117 (fun H locs I => ?_)
        exact x_rv E rfl hf rfl I rfl dX0_weigh_120
      · replace hf := x_ifT hf c8
        refine lv_aload_n S.1 S.2.1 dX0_weigh_76 rfl (lv_at hl 1 rfl) ?_
        refine x_get (C := RX0) (T := TX0) (N := 11) (ci := 0) (v := .ref (a 3)) S kX0 rfl I 0 3 rfl (by decide) (by decide +kernel) rfl dX0_weigh_77 ?_
        refine lv_iload_n S.1 S.2.1 dX0_weigh_80 rfl (lv_at hl 2 rfl) ?_
        obtain ⟨hi12, hf⟩ := x_ldE hf
        refine x_iald (f := (G 3)) S I 4 0 rfl rfl hi12 dX0_weigh_81 ?_
        refine lv_istore_n (lv' := [(3, .int ((G 3) p1.toNatClampNeg)), (2, .int ((G 0) p1.toNatClampNeg)), (0, .ref h), (1, .int p1)]) S.1 S.2.1 dX0_weigh_82 rfl hl (by decide) rfl (fun ls hl => ?_)
        refine lv_aload_n S.1 S.2.1 dX0_weigh_83 rfl (lv_at hl 2 rfl) ?_
        refine lv_iload_n S.1 S.2.1 dX0_weigh_84 rfl (lv_at hl 3 rfl) ?_
        refine lv_aload_n S.1 S.2.1 dX0_weigh_85 rfl (lv_at hl 2 rfl) ?_
        refine x_get (C := RX0) (T := TX0) (N := 11) (ci := 0) (v := .ref (a 6)) S kX0 rfl I 0 6 rfl (by decide) (by decide +kernel) rfl dX0_weigh_86 ?_
        refine lv_iload_n S.1 S.2.1 dX0_weigh_89 rfl (lv_at hl 0 rfl) ?_
        obtain ⟨hi13, hf⟩ := x_ldE hf
        refine x_iald (f := (G 6)) S I 7 0 rfl rfl hi13 dX0_weigh_90 ?_
        refine lv_aload_n S.1 S.2.1 dX0_weigh_91 rfl (lv_at hl 2 rfl) ?_
        refine x_get (C := RX0) (T := TX0) (N := 11) (ci := 0) (v := .ref (a 5)) S kX0 rfl I 0 5 rfl (by decide) (by decide +kernel) rfl dX0_weigh_92 ?_
        refine lv_iload_n S.1 S.2.1 dX0_weigh_95 rfl (lv_at hl 0 rfl) ?_
        obtain ⟨hi14, hf⟩ := x_ldE hf
        refine x_iald (f := (G 5)) S I 6 0 rfl rfl hi14 dX0_weigh_96 ?_
        refine lv_aload_n S.1 S.2.1 dX0_weigh_97 rfl (lv_at hl 2 rfl) ?_
        refine x_get (C := RX0) (T := TX0) (N := 11) (ci := 0) (v := .ref (a 7)) S kX0 rfl I 0 7 rfl (by decide) (by decide +kernel) rfl dX0_weigh_98 ?_
        refine lv_iload_n S.1 S.2.1 dX0_weigh_101 rfl (lv_at hl 0 rfl) ?_
        obtain ⟨hi15, hf⟩ := x_ldE hf
        refine x_iald (f := (G 7)) S I 8 0 rfl rfl hi15 dX0_weigh_102 ?_
        obtain ⟨G17, hg16, hf⟩ := x_b1E hf
        refine x_cA (As := [.int p1, .int ((G 6) ((G 3) p1.toNatClampNeg).toNatClampNeg), .int ((G 5) ((G 3) p1.toNatClampNeg).toNatClampNeg), .int ((G 7) ((G 3) p1.toNatClampNeg).toNatClampNeg)]) (rest := []) (st' := []) (ws' := (wX0 cI cC cZ h a F G17)) S I (tX0_setWeight l D cI cC cZ h a F G p1 ((G 6) ((G 3) p1.toNatClampNeg).toNatClampNeg) ((G 5) ((G 3) p1.toNatClampNeg).toNatClampNeg) ((G 7) ((G 3) p1.toNatClampNeg).toNatClampNeg) G17 hg16) (cwV 4 S.2.2.2.2 gX0_weigh_X0_setWeight rfl rfl rfl (by decide +kernel) ⟨Nat.le_of_ble_eq_true rfl, Nat.le_of_ble_eq_true rfl⟩) 0 0 rfl rfl rfl rfl hl rfl (Nat.le_of_ble_eq_true rfl) ⟨Nat.zero_le _, Nat.zero_le _⟩ rfl dX0_weigh_103 (fun H locs I => ?_)
        refine lv_goto (tgt := 120) S.1 S.2.1 dX0_weigh_106 (by decide) ?_
        exact x_rv E rfl hf rfl I rfl dX0_weigh_120
    · replace hf := x_ifF hf c7
      refine lv_aload_n S.1 S.2.1 dX0_weigh_50 rfl (lv_at hl 1 rfl) ?_
      refine lv_iload_n S.1 S.2.1 dX0_weigh_51 rfl (lv_at hl 2 rfl) ?_
      refine lv_aload_n S.1 S.2.1 dX0_weigh_52 rfl (lv_at hl 1 rfl) ?_
      refine x_get (C := RX0) (T := TX0) (N := 11) (ci := 0) (v := .ref (a 3)) S kX0 rfl I 0 3 rfl (by decide) (by decide +kernel) rfl dX0_weigh_53 ?_
      refine lv_iload_n S.1 S.2.1 dX0_weigh_56 rfl (lv_at hl 2 rfl) ?_
      obtain ⟨hi18, hf⟩ := x_ldE hf
      refine x_iald (f := (G 3)) S I 4 0 rfl rfl hi18 dX0_weigh_57 ?_
      refine lv_aload_n S.1 S.2.1 dX0_weigh_58 rfl (lv_at hl 1 rfl) ?_
      refine x_get (C := RX0) (T := TX0) (N := 11) (ci := 0) (v := .ref (a 4)) S kX0 rfl I 0 4 rfl (by decide) (by decide +kernel) rfl dX0_weigh_59 ?_
      refine lv_iload_n S.1 S.2.1 dX0_weigh_62 rfl (lv_at hl 2 rfl) ?_
      obtain ⟨hi19, hf⟩ := x_ldE hf
      refine x_iald (f := (G 4)) S I 5 0 rfl rfl hi19 dX0_weigh_63 ?_
      obtain ⟨G21, hg20, hf⟩ := x_b1E hf
      refine x_cA (As := [.int p1, .int ((G 3) p1.toNatClampNeg), .int ((G 4) p1.toNatClampNeg)]) (rest := []) (st' := []) (ws' := (wX0 cI cC cZ h a F G21)) S I (tX0_weighOperator l D cI cC cZ h a F G p1 ((G 3) p1.toNatClampNeg) ((G 4) p1.toNatClampNeg) G21 hg20) (cwV 3 S.2.2.2.2 gX0_weigh_X0_weighOperator rfl rfl rfl (by decide +kernel) ⟨Nat.le_of_ble_eq_true rfl, Nat.le_of_ble_eq_true rfl⟩) 0 0 rfl rfl rfl rfl hl rfl (Nat.le_of_ble_eq_true rfl) ⟨Nat.zero_le _, Nat.zero_le _⟩ rfl dX0_weigh_64 (fun H locs I => ?_)
      refine lv_goto (tgt := 120) S.1 S.2.1 dX0_weigh_67 (by decide) ?_
      exact x_rv E rfl hf rfl I rfl dX0_weigh_120
  · replace hf := x_ifF hf c4
    refine lv_aload_n S.1 S.2.1 dX0_weigh_14 rfl (lv_at hl 1 rfl) ?_
    refine lv_iload_n S.1 S.2.1 dX0_weigh_15 rfl (lv_at hl 2 rfl) ?_
    refine lv_iconst (v := 0) S.1 S.2.1 dX0_weigh_16 (by decide) ?_
    refine lv_iconst (v := 0) S.1 S.2.1 dX0_weigh_17 (by decide) ?_
    refine lv_aload_n S.1 S.2.1 dX0_weigh_18 rfl (lv_at hl 1 rfl) ?_
    refine x_get (C := RX0) (T := TX0) (N := 11) (ci := 0) (v := .ref (a 1)) S kX0 rfl I 0 1 rfl (by decide) (by decide +kernel) rfl dX0_weigh_19 ?_
    refine lv_iload_n S.1 S.2.1 dX0_weigh_22 rfl (lv_at hl 2 rfl) ?_
    obtain ⟨hi22, hf⟩ := x_ldE hf
    refine x_iald (f := (G 1)) S I 2 0 rfl rfl hi22 dX0_weigh_23 ?_
    obtain ⟨r24, hg23, hf⟩ := x_b1E hf
    refine x_c0 (As := [.int ((G 1) p1.toNatClampNeg)]) (rest := [.int 0, .int 0, .int p1, .ref h]) (st' := [.int r24, .int 0, .int 0, .int p1, .ref h]) S I rfl (tX0_bit l D cI cC cZ ((G 1) p1.toNatClampNeg) r24 hg23) (va_cwS 1 S.2.2.2.2 gX0_weigh_X0_bit rfl rfl rfl (by decide +kernel) ⟨Nat.le_of_ble_eq_true rfl, Nat.le_of_ble_eq_true rfl⟩) hl rfl (Nat.le_of_ble_eq_true rfl) ⟨Nat.zero_le _, Nat.zero_le _⟩ rfl dX0_weigh_24 (fun H locs I => ?_)
    refine lv_aload_n S.1 S.2.1 dX0_weigh_27 rfl (lv_at hl 1 rfl) ?_
    refine x_get (C := RX0) (T := TX0) (N := 11) (ci := 0) (v := .ref (a 2)) S kX0 rfl I 0 2 rfl (by decide) (by decide +kernel) rfl dX0_weigh_28 ?_
    refine lv_iload_n S.1 S.2.1 dX0_weigh_31 rfl (lv_at hl 2 rfl) ?_
    obtain ⟨hi25, hf⟩ := x_ldE hf
    refine x_iald (f := (G 2)) S I 3 0 rfl rfl hi25 dX0_weigh_32 ?_
    obtain ⟨r27, hg26, hf⟩ := x_b1E hf
    refine x_c0 (As := [.int ((G 2) p1.toNatClampNeg)]) (rest := [.int r24, .int 0, .int 0, .int p1, .ref h]) (st' := [.int r27, .int r24, .int 0, .int 0, .int p1, .ref h]) S I rfl (tX0_bit l D cI cC cZ ((G 2) p1.toNatClampNeg) r27 hg26) (va_cwS 1 S.2.2.2.2 gX0_weigh_X0_bit rfl rfl rfl (by decide +kernel) ⟨Nat.le_of_ble_eq_true rfl, Nat.le_of_ble_eq_true rfl⟩) hl rfl (Nat.le_of_ble_eq_true rfl) ⟨Nat.zero_le _, Nat.zero_le _⟩ rfl dX0_weigh_33 (fun H locs I => ?_)
    refine lv_ior S.1 S.2.1 dX0_weigh_36 ?_
    obtain ⟨G29, hg28, hf⟩ := x_b1E hf
    refine x_cA (As := [.int p1, .int 0, .int 0, .int (r24 ||| r27)]) (rest := []) (st' := []) (ws' := (wX0 cI cC cZ h a F G29)) S I (tX0_setWeight l D cI cC cZ h a F G p1 0 0 (r24 ||| r27) G29 hg28) (cwV 4 S.2.2.2.2 gX0_weigh_X0_setWeight rfl rfl rfl (by decide +kernel) ⟨Nat.le_of_ble_eq_true rfl, Nat.le_of_ble_eq_true rfl⟩) 0 0 rfl rfl rfl rfl hl rfl (Nat.le_of_ble_eq_true rfl) ⟨Nat.zero_le _, Nat.zero_le _⟩ rfl dX0_weigh_37 (fun H locs I => ?_)
    refine lv_goto (tgt := 120) S.1 S.2.1 dX0_weigh_40 (by decide) ?_
    exact x_rv E rfl hf rfl I rfl dX0_weigh_120
set_option maxHeartbeats 4000000 in
set_option maxRecDepth 100000 in
theorem tX0_number (l : Launch) (D : va_G) (cI cC cZ : ClassId) (p1 p2 : Int32) (res : Int32) (hf : fX0_number p1 p2 = some res) : xC l yX0_number wsX0_number rmX0_number D [.int p1, .int p2] [] (fun _ => []) (xT cI cC cZ) (fun t => some (.int t)) res := by
  refine x_of (cc := cX0_number) (maxL := 2) (ret := (some .int)) (by decide) rfl (Nat.le_of_ble_eq_true rfl) ?_
  intro p e s m args below meth c A Q ls S I E hl
  replace hl : lv_has ls 2 [(0, .int p1), (1, .int p2)] := hl
  replace hf := (fX0_number_e _ _).symm.trans hf
  refine lv_iload_n S.1 S.2.1 dX0_number_0 rfl (lv_at hl 1 rfl) ?_
  by_cases c1 : p2 = 0
  · replace hf := x_ifT hf c1
    refine lv_lookup (off := 27) (tgt := 28) S.1 S.2.1 dX0_number_1 (by decide) (by rw [c1]; rfl) (by decide) ?_
    refine lv_iload_n S.1 S.2.1 dX0_number_28 rfl (lv_at hl 0 rfl) ?_
    refine lv_iconst (v := 5) S.1 S.2.1 dX0_number_29 (by decide) ?_
    obtain ⟨hz2, hf⟩ := x_dvE hf
    refine lv_irem S.1 S.2.1 dX0_number_30 hz2 ?_
    exact x_ri E rfl rfl hf rfl I rfl dX0_number_31
  · replace hf := x_ifF hf c1
    by_cases c3 : p2 = 1
    · replace hf := x_ifT hf c3
      refine lv_lookup (off := 31) (tgt := 32) S.1 S.2.1 dX0_number_1 (by decide) ((lv_osw c1 (by decide)).trans (by rw [c3]; rfl)) (by decide) ?_
      refine lv_iload_n S.1 S.2.1 dX0_number_32 rfl (lv_at hl 0 rfl) ?_
      refine lv_iconst (v := 5) S.1 S.2.1 dX0_number_33 (by decide) ?_
      obtain ⟨hz4, hf⟩ := x_dvE hf
      refine lv_idiv S.1 S.2.1 dX0_number_34 hz4 ?_
      refine lv_iconst (v := 5) S.1 S.2.1 dX0_number_35 (by decide) ?_
      obtain ⟨hz5, hf⟩ := x_dvE hf
      refine lv_irem S.1 S.2.1 dX0_number_36 hz5 ?_
      exact x_ri E rfl rfl hf rfl I rfl dX0_number_37
    · replace hf := x_ifF hf c3
      refine lv_lookup (off := 37) (tgt := 38) S.1 S.2.1 dX0_number_1 (by decide) ((lv_osw c1 (by decide)).trans ((lv_osw c3 (by decide)).trans (rfl))) (by decide) ?_
      refine lv_iload_n S.1 S.2.1 dX0_number_38 rfl (lv_at hl 0 rfl) ?_
      refine lv_bipush (v := 25) S.1 S.2.1 dX0_number_39 (by decide) ?_
      obtain ⟨hz6, hf⟩ := x_dvE hf
      refine lv_idiv S.1 S.2.1 dX0_number_41 hz6 ?_
      exact x_ri E rfl rfl hf rfl I rfl dX0_number_42
set_option maxHeartbeats 4000000 in
set_option maxRecDepth 100000 in
theorem tX0_step (l : Launch) (D : va_G) (cI cC cZ : ClassId) (p1 : Int32) (res : Int32) (hf : fX0_step p1 = some res) : xC l yX0_step wsX0_step rmX0_step D [.int p1] [] (fun _ => []) (xT cI cC cZ) (fun t => some (.int t)) res := by
  refine x_of (cc := cX0_step) (maxL := 1) (ret := (some .int)) (by decide) rfl (Nat.le_of_ble_eq_true rfl) ?_
  intro p e s m args below meth c A Q ls S I E hl
  replace hl : lv_has ls 1 [(0, .int p1)] := hl
  replace hf := (fX0_step_e _).symm.trans hf
  refine lv_iload_n S.1 S.2.1 dX0_step_0 rfl (lv_at hl 0 rfl) ?_
  by_cases c1 : p1 = 0
  · replace hf := x_ifT hf c1
    refine lv_lookup (off := 27) (tgt := 28) S.1 S.2.1 dX0_step_1 (by decide) (by rw [c1]; rfl) (by decide) ?_
    refine lv_iconst (v := 1) S.1 S.2.1 dX0_step_28 (by decide) ?_
    exact x_ri E rfl rfl hf rfl I rfl dX0_step_29
  · replace hf := x_ifF hf c1
    by_cases c2 : p1 = 1
    · replace hf := x_ifT hf c2
      refine lv_lookup (off := 29) (tgt := 30) S.1 S.2.1 dX0_step_1 (by decide) ((lv_osw c1 (by decide)).trans (by rw [c2]; rfl)) (by decide) ?_
      refine lv_iconst (v := 5) S.1 S.2.1 dX0_step_30 (by decide) ?_
      exact x_ri E rfl rfl hf rfl I rfl dX0_step_31
    · replace hf := x_ifF hf c2
      refine lv_lookup (off := 31) (tgt := 32) S.1 S.2.1 dX0_step_1 (by decide) ((lv_osw c1 (by decide)).trans ((lv_osw c2 (by decide)).trans (rfl))) (by decide) ?_
      refine lv_bipush (v := 25) S.1 S.2.1 dX0_step_32 (by decide) ?_
      exact x_ri E rfl rfl hf rfl I rfl dX0_step_34
set_option maxHeartbeats 4000000 in
set_option maxRecDepth 100000 in
theorem tX0_isSomewhere (l : Launch) (D : va_G) (cI cC cZ : ClassId) (h : Nat) (a : Nat → Nat) (F : xF) (G : xG) (p1 p2 p3 p4 : Int32) (res : Int32) (hf : fX0_isSomewhere G p1 p2 p3 p4 = some res) : xC l yX0_isSomewhere wsX0_isSomewhere rmX0_isSomewhere D [.ref h, .int p1, .int p2, .int p3, .int p4] (wX0 cI cC cZ h a F G) (fun _ => (wX0 cI cC cZ h a F G)) (xT cI cC cZ) (fun t => some (.int t)) res := by
  have kX0 : ∀ w ∈ u_ws RX0 TX0 11, w ∈ wsX0_isSomewhere := by decide +kernel
  refine x_of (cc := cX0_isSomewhere) (maxL := 9) (ret := (some .boolean)) (by decide) rfl (Nat.le_of_ble_eq_true rfl) ?_
  intro p e s m args below meth c A Q ls S I E hl
  replace hl : lv_has ls 9 [(0, .ref h), (1, .int p1), (2, .int p2), (3, .int p3), (4, .int p4)] := hl
  replace hf := (fX0_isSomewhere_e _ _ _ _ _).symm.trans hf
  refine lv_aload_n S.1 S.2.1 dX0_isSomewhere_0 rfl (lv_at hl 0 rfl) ?_
  refine x_get (C := RX0) (T := TX0) (N := 11) (ci := 0) (v := .ref (a 1)) S kX0 rfl I 0 1 rfl (by decide) (by decide +kernel) rfl dX0_isSomewhere_1 ?_
  refine lv_iload_n S.1 S.2.1 dX0_isSomewhere_4 rfl (lv_at hl 1 rfl) ?_
  obtain ⟨hi1, hf⟩ := x_ldE hf
  refine x_iald (f := (G 1)) S I 2 0 rfl rfl hi1 dX0_isSomewhere_5 ?_
  refine lv_istore (lv' := [(5, .int ((G 1) p1.toNatClampNeg)), (0, .ref h), (1, .int p1), (2, .int p2), (3, .int p3), (4, .int p4)]) S.1 S.2.1 dX0_isSomewhere_6 hl (by decide) rfl (fun ls hl => ?_)
  refine lv_iload S.1 S.2.1 dX0_isSomewhere_8 (lv_at hl 0 rfl) ?_
  obtain ⟨r3, hg2, hf⟩ := x_b1E hf
  refine x_c0 (As := [.int ((G 1) p1.toNatClampNeg)]) (rest := []) (st' := [.int r3]) S I rfl (tX0_step l D cI cC cZ ((G 1) p1.toNatClampNeg) r3 hg2) (va_cwS 1 S.2.2.2.2 gX0_isSomewhere_X0_step rfl rfl rfl (by decide +kernel) ⟨Nat.le_of_ble_eq_true rfl, Nat.le_of_ble_eq_true rfl⟩) hl rfl (Nat.le_of_ble_eq_true rfl) ⟨Nat.zero_le _, Nat.zero_le _⟩ rfl dX0_isSomewhere_10 (fun H locs I => ?_)
  refine lv_istore (lv' := [(6, .int r3), (5, .int ((G 1) p1.toNatClampNeg)), (0, .ref h), (1, .int p1), (2, .int p2), (3, .int p3), (4, .int p4)]) S.1 S.2.1 dX0_isSomewhere_13 hl (by decide) rfl (fun ls hl => ?_)
  refine lv_aload_n S.1 S.2.1 dX0_isSomewhere_15 rfl (lv_at hl 2 rfl) ?_
  refine x_get (C := RX0) (T := TX0) (N := 11) (ci := 0) (v := .ref (a 3)) S kX0 rfl I 0 3 rfl (by decide) (by decide +kernel) rfl dX0_isSomewhere_16 ?_
  refine lv_iload_n S.1 S.2.1 dX0_isSomewhere_19 rfl (lv_at hl 3 rfl) ?_
  obtain ⟨hi4, hf⟩ := x_ldE hf
  refine x_iald (f := (G 3)) S I 4 0 rfl rfl hi4 dX0_isSomewhere_20 ?_
  refine lv_bipush (v := 125) S.1 S.2.1 dX0_isSomewhere_21 (by decide) ?_
  refine lv_imul S.1 S.2.1 dX0_isSomewhere_23 ?_
  refine lv_iload_n S.1 S.2.1 dX0_isSomewhere_24 rfl (lv_at hl 4 rfl) ?_
  refine lv_iadd S.1 S.2.1 dX0_isSomewhere_25 ?_
  refine lv_iload_n S.1 S.2.1 dX0_isSomewhere_26 rfl (lv_at hl 4 rfl) ?_
  refine lv_iload S.1 S.2.1 dX0_isSomewhere_27 (lv_at hl 1 rfl) ?_
  obtain ⟨r6, hg5, hf⟩ := x_b1E hf
  refine x_c0 (As := [.int p2, .int ((G 1) p1.toNatClampNeg)]) (rest := [.int ((((G 3) p1.toNatClampNeg) * 125) + p2)]) (st' := [.int r6, .int ((((G 3) p1.toNatClampNeg) * 125) + p2)]) S I rfl (tX0_number l D cI cC cZ p2 ((G 1) p1.toNatClampNeg) r6 hg5) (va_cwS 2 S.2.2.2.2 gX0_isSomewhere_X0_number rfl rfl rfl (by decide +kernel) ⟨Nat.le_of_ble_eq_true rfl, Nat.le_of_ble_eq_true rfl⟩) hl rfl (Nat.le_of_ble_eq_true rfl) ⟨Nat.zero_le _, Nat.zero_le _⟩ rfl dX0_isSomewhere_29 (fun H locs I => ?_)
  refine lv_iload S.1 S.2.1 dX0_isSomewhere_32 (lv_at hl 0 rfl) ?_
  refine lv_imul S.1 S.2.1 dX0_isSomewhere_34 ?_
  refine lv_isub S.1 S.2.1 dX0_isSomewhere_35 ?_
  refine lv_istore (lv' := [(7, .int (((((G 3) p1.toNatClampNeg) * 125) + p2) - (r6 * r3))), (6, .int r3), (5, .int ((G 1) p1.toNatClampNeg)), (0, .ref h), (1, .int p1), (2, .int p2), (3, .int p3), (4, .int p4)]) S.1 S.2.1 dX0_isSomewhere_36 hl (by decide) rfl (fun ls hl => ?_)
  refine lv_iconst (v := 0) S.1 S.2.1 dX0_isSomewhere_38 (by decide) ?_
  refine lv_istore (lv' := [(8, .int 0), (7, .int (((((G 3) p1.toNatClampNeg) * 125) + p2) - (r6 * r3))), (6, .int r3), (5, .int ((G 1) p1.toNatClampNeg)), (0, .ref h), (1, .int p1), (2, .int p2), (3, .int p3), (4, .int p4)]) S.1 S.2.1 dX0_isSomewhere_39 hl (by decide) rfl (fun ls hl => ?_)
  have hl41 : ∀ (n41 : Nat), ∀ (v7 : Int32) (H : Heap) (locs : List Loc) (ls : Array Slot), (fX0_isSomewhere_l41 G p3 p1 p2 r6 r3 p4 n41) v7 = some res → xI D A s (wX0 cI cC cZ h a F G) (xT cI cC cZ) H locs → lv_has ls 9 [(8, .int v7), (7, .int (((((G 3) p1.toNatClampNeg) * 125) + p2) - (r6 * r3))), (6, .int r3), (0, .ref h), (3, .int p3), (4, .int p4)] → W p l e (headSpec wsX0_isSomewhere rmX0_isSomewhere).room s m args below meth c H locs 0 0 Q (F0 m 41 ls []) := by
    intro n41
    induction n41 with
    | zero =>
      intro v7 H locs ls hf I hl
      cases (fX0_isSomewhere_l41_z _ _ _ _ _ _ _ _).symm.trans hf
    | succ n41 ih41 =>
      intro v7 H locs ls hf I hl
      replace hf := (fX0_isSomewhere_l41_e _ _ _ _ _ _ _ _ _).symm.trans hf
      refine lv_iload S.1 S.2.1 dX0_isSomewhere_41 (lv_at hl 0 rfl) ?_
      refine lv_iload_n S.1 S.2.1 dX0_isSomewhere_43 rfl (lv_at hl 4 rfl) ?_
      refine lv_icmp_ge (tgt := 73) S.1 S.2.1 dX0_isSomewhere_44 (by decide) (fun c8 => ?_) (fun c8 => ?_)
      · replace hf := x_ifT hf c8
        refine lv_iconst (v := 0) S.1 S.2.1 dX0_isSomewhere_73 (by decide) ?_
        exact x_ri E rfl x_n0 hf rfl I rfl dX0_isSomewhere_74
      · replace hf := x_ifF hf c8
        refine lv_aload_n S.1 S.2.1 dX0_isSomewhere_47 rfl (lv_at hl 3 rfl) ?_
        refine x_get (C := RX0) (T := TX0) (N := 11) (ci := 0) (v := .ref (a 8)) S kX0 rfl I 0 8 rfl (by decide) (by decide +kernel) rfl dX0_isSomewhere_48 ?_
        refine lv_iload S.1 S.2.1 dX0_isSomewhere_51 (lv_at hl 1 rfl) ?_
        refine lv_iload S.1 S.2.1 dX0_isSomewhere_53 (lv_at hl 0 rfl) ?_
        refine lv_iload S.1 S.2.1 dX0_isSomewhere_55 (lv_at hl 2 rfl) ?_
        refine lv_imul S.1 S.2.1 dX0_isSomewhere_57 ?_
        refine lv_iadd S.1 S.2.1 dX0_isSomewhere_58 ?_
        obtain ⟨hi9, hf⟩ := x_ldE hf
        refine x_zald (f := (G 8)) S I 9 2 rfl rfl hi9 dX0_isSomewhere_59 ?_
        refine lv_iload S.1 S.2.1 dX0_isSomewhere_60 (lv_at hl 5 rfl) ?_
        refine lv_icmp_ne (tgt := 67) S.1 S.2.1 dX0_isSomewhere_62 (by decide) (fun c10 => ?_) (fun c10 => ?_)
        · replace hf := x_ifF hf c10
          refine lv_iinc (v := (v7 + 1)) (lv' := [(8, .int (v7 + 1)), (7, .int (((((G 3) p1.toNatClampNeg) * 125) + p2) - (r6 * r3))), (6, .int r3), (0, .ref h), (3, .int p3), (4, .int p4)]) S.1 S.2.1 dX0_isSomewhere_67 hl (k := 0) rfl rfl (by decide) rfl (fun ls hl => ?_)
          refine lv_goto (tgt := 41) S.1 S.2.1 dX0_isSomewhere_70 (by decide) ?_
          exact ih41 (v7 + 1) _ _ _ hf I (lv_sub hl [0, 1, 2, 3, 4, 5] rfl)
        · replace hf := x_ifT hf c10
          refine lv_iconst (v := 1) S.1 S.2.1 dX0_isSomewhere_65 (by decide) ?_
          exact x_ri E rfl x_n1 hf rfl I rfl dX0_isSomewhere_66
  exact hl41 4096 0 _ _ _ hf I (lv_sub hl [0, 1, 2, 4, 7, 8] rfl)
set_option maxHeartbeats 4000000 in
set_option maxRecDepth 100000 in
theorem tX0_truthOfOperator (l : Launch) (D : va_G) (cI cC cZ : ClassId) (h : Nat) (a : Nat → Nat) (F : xF) (G : xG) (p1 p2 : Int32) (res : Int32) (hf : fX0_truthOfOperator G p1 p2 = some res) : xC l yX0_truthOfOperator wsX0_truthOfOperator rmX0_truthOfOperator D [.ref h, .int p1, .int p2] (wX0 cI cC cZ h a F G) (fun _ => (wX0 cI cC cZ h a F G)) (xT cI cC cZ) (fun t => some (.int t)) res := by
  have kX0 : ∀ w ∈ u_ws RX0 TX0 11, w ∈ wsX0_truthOfOperator := by decide +kernel
  refine x_of (cc := cX0_truthOfOperator) (maxL := 5) (ret := (some .boolean)) (by decide) rfl (Nat.le_of_ble_eq_true rfl) ?_
  intro p e s m args below meth c A Q ls S I E hl
  replace hl : lv_has ls 5 [(0, .ref h), (1, .int p1), (2, .int p2)] := hl
  replace hf := (fX0_truthOfOperator_e _ _ _).symm.trans hf
  refine lv_aload_n S.1 S.2.1 dX0_truthOfOperator_0 rfl (lv_at hl 0 rfl) ?_
  refine x_get (C := RX0) (T := TX0) (N := 11) (ci := 0) (v := .ref (a 8)) S kX0 rfl I 0 8 rfl (by decide) (by decide +kernel) rfl dX0_truthOfOperator_1 ?_
  refine lv_aload_n S.1 S.2.1 dX0_truthOfOperator_4 rfl (lv_at hl 0 rfl) ?_
  refine x_get (C := RX0) (T := TX0) (N := 11) (ci := 0) (v := .ref (a 3)) S kX0 rfl I 0 3 rfl (by decide) (by decide +kernel) rfl dX0_truthOfOperator_5 ?_
  refine lv_iload_n S.1 S.2.1 dX0_truthOfOperator_8 rfl (lv_at hl 1 rfl) ?_
  obtain ⟨hi1, hf⟩ := x_ldE hf
  refine x_iald (f := (G 3)) S I 4 0 rfl rfl hi1 dX0_truthOfOperator_9 ?_
  refine lv_bipush (v := 125) S.1 S.2.1 dX0_truthOfOperator_10 (by decide) ?_
  refine lv_imul S.1 S.2.1 dX0_truthOfOperator_12 ?_
  refine lv_iload_n S.1 S.2.1 dX0_truthOfOperator_13 rfl (lv_at hl 2 rfl) ?_
  refine lv_iadd S.1 S.2.1 dX0_truthOfOperator_14 ?_
  obtain ⟨hi2, hf⟩ := x_ldE hf
  refine x_zald (f := (G 8)) S I 9 2 rfl rfl hi2 dX0_truthOfOperator_15 ?_
  refine lv_istore_n (lv' := [(3, .int ((G 8) ((((G 3) p1.toNatClampNeg) * 125) + p2).toNatClampNeg)), (0, .ref h), (1, .int p1), (2, .int p2)]) S.1 S.2.1 dX0_truthOfOperator_16 rfl hl (by decide) rfl (fun ls hl => ?_)
  refine lv_aload_n S.1 S.2.1 dX0_truthOfOperator_17 rfl (lv_at hl 1 rfl) ?_
  refine x_get (C := RX0) (T := TX0) (N := 11) (ci := 0) (v := .ref (a 8)) S kX0 rfl I 0 8 rfl (by decide) (by decide +kernel) rfl dX0_truthOfOperator_18 ?_
  refine lv_aload_n S.1 S.2.1 dX0_truthOfOperator_21 rfl (lv_at hl 1 rfl) ?_
  refine x_get (C := RX0) (T := TX0) (N := 11) (ci := 0) (v := .ref (a 4)) S kX0 rfl I 0 4 rfl (by decide) (by decide +kernel) rfl dX0_truthOfOperator_22 ?_
  refine lv_iload_n S.1 S.2.1 dX0_truthOfOperator_25 rfl (lv_at hl 2 rfl) ?_
  obtain ⟨hi3, hf⟩ := x_ldE hf
  refine x_iald (f := (G 4)) S I 5 0 rfl rfl hi3 dX0_truthOfOperator_26 ?_
  refine lv_bipush (v := 125) S.1 S.2.1 dX0_truthOfOperator_27 (by decide) ?_
  refine lv_imul S.1 S.2.1 dX0_truthOfOperator_29 ?_
  refine lv_iload_n S.1 S.2.1 dX0_truthOfOperator_30 rfl (lv_at hl 3 rfl) ?_
  refine lv_iadd S.1 S.2.1 dX0_truthOfOperator_31 ?_
  obtain ⟨hi4, hf⟩ := x_ldE hf
  refine x_zald (f := (G 8)) S I 9 2 rfl rfl hi4 dX0_truthOfOperator_32 ?_
  refine lv_istore (lv' := [(4, .int ((G 8) ((((G 4) p1.toNatClampNeg) * 125) + p2).toNatClampNeg)), (3, .int ((G 8) ((((G 3) p1.toNatClampNeg) * 125) + p2).toNatClampNeg)), (0, .ref h), (1, .int p1), (2, .int p2)]) S.1 S.2.1 dX0_truthOfOperator_33 hl (by decide) rfl (fun ls hl => ?_)
  refine lv_aload_n S.1 S.2.1 dX0_truthOfOperator_35 rfl (lv_at hl 2 rfl) ?_
  refine x_get (C := RX0) (T := TX0) (N := 11) (ci := 0) (v := .ref (a 0)) S kX0 rfl I 0 0 rfl (by decide) (by decide +kernel) rfl dX0_truthOfOperator_36 ?_
  refine lv_iload_n S.1 S.2.1 dX0_truthOfOperator_39 rfl (lv_at hl 3 rfl) ?_
  obtain ⟨hi5, hf⟩ := x_ldE hf
  refine x_cald (f := (G 0)) S I 1 1 rfl rfl hi5 dX0_truthOfOperator_40 ?_
  by_cases c6 : ((G 0) p1.toNatClampNeg) = 38
  · replace hf := x_ifT hf c6
    refine lv_lookup (off := 27) (tgt := 68) S.1 S.2.1 dX0_truthOfOperator_41 (by decide) (by rw [c6]; rfl) (by decide) ?_
    refine lv_iload_n S.1 S.2.1 dX0_truthOfOperator_68 rfl (lv_at hl 1 rfl) ?_
    refine lv_if_eq (tgt := 81) S.1 S.2.1 dX0_truthOfOperator_69 (by decide) (fun c7 => ?_) (fun c7 => ?_)
    · replace hf := x_ifT hf c7
      refine lv_iconst (v := 0) S.1 S.2.1 dX0_truthOfOperator_81 (by decide) ?_
      exact x_ri E rfl x_n0 hf rfl I rfl dX0_truthOfOperator_82
    · replace hf := x_ifF hf c7
      refine lv_iload S.1 S.2.1 dX0_truthOfOperator_72 (lv_at hl 0 rfl) ?_
      refine lv_if_eq (tgt := 81) S.1 S.2.1 dX0_truthOfOperator_74 (by decide) (fun c8 => ?_) (fun c8 => ?_)
      · replace hf := x_ifT hf c8
        refine lv_iconst (v := 0) S.1 S.2.1 dX0_truthOfOperator_81 (by decide) ?_
        exact x_ri E rfl x_n0 hf rfl I rfl dX0_truthOfOperator_82
      · replace hf := x_ifF hf c8
        refine lv_iconst (v := 1) S.1 S.2.1 dX0_truthOfOperator_77 (by decide) ?_
        refine lv_goto (tgt := 82) S.1 S.2.1 dX0_truthOfOperator_78 (by decide) ?_
        exact x_ri E rfl x_n1 hf rfl I rfl dX0_truthOfOperator_82
  · replace hf := x_ifF hf c6
    by_cases c9 : ((G 0) p1.toNatClampNeg) = 124
    · replace hf := x_ifT hf c9
      refine lv_lookup (off := 42) (tgt := 83) S.1 S.2.1 dX0_truthOfOperator_41 (by decide) ((lv_osw c6 (by decide)).trans (by rw [c9]; rfl)) (by decide) ?_
      refine lv_iload_n S.1 S.2.1 dX0_truthOfOperator_83 rfl (lv_at hl 1 rfl) ?_
      refine lv_if_ne (tgt := 92) S.1 S.2.1 dX0_truthOfOperator_84 (by decide) (fun c10 => ?_) (fun c10 => ?_)
      · replace hf := x_ifF hf c10
        refine lv_iconst (v := 1) S.1 S.2.1 dX0_truthOfOperator_92 (by decide) ?_
        refine lv_goto (tgt := 97) S.1 S.2.1 dX0_truthOfOperator_93 (by decide) ?_
        exact x_ri E rfl x_n1 hf rfl I rfl dX0_truthOfOperator_97
      · replace hf := x_ifT hf c10
        refine lv_iload S.1 S.2.1 dX0_truthOfOperator_87 (lv_at hl 0 rfl) ?_
        refine lv_if_eq (tgt := 96) S.1 S.2.1 dX0_truthOfOperator_89 (by decide) (fun c11 => ?_) (fun c11 => ?_)
        · replace hf := x_ifT hf c11
          refine lv_iconst (v := 0) S.1 S.2.1 dX0_truthOfOperator_96 (by decide) ?_
          exact x_ri E rfl x_n0 hf rfl I rfl dX0_truthOfOperator_97
        · replace hf := x_ifF hf c11
          refine lv_iconst (v := 1) S.1 S.2.1 dX0_truthOfOperator_92 (by decide) ?_
          refine lv_goto (tgt := 97) S.1 S.2.1 dX0_truthOfOperator_93 (by decide) ?_
          exact x_ri E rfl x_n1 hf rfl I rfl dX0_truthOfOperator_97
    · replace hf := x_ifF hf c9
      refine lv_lookup (off := 57) (tgt := 98) S.1 S.2.1 dX0_truthOfOperator_41 (by decide) ((lv_osw c6 (by decide)).trans ((lv_osw c9 (by decide)).trans (rfl))) (by decide) ?_
      refine lv_iload_n S.1 S.2.1 dX0_truthOfOperator_98 rfl (lv_at hl 1 rfl) ?_
      refine lv_if_eq (tgt := 107) S.1 S.2.1 dX0_truthOfOperator_99 (by decide) (fun c12 => ?_) (fun c12 => ?_)
      · replace hf := x_ifT hf c12
        refine lv_iconst (v := 1) S.1 S.2.1 dX0_truthOfOperator_107 (by decide) ?_
        refine lv_goto (tgt := 112) S.1 S.2.1 dX0_truthOfOperator_108 (by decide) ?_
        exact x_ri E rfl x_n1 hf rfl I rfl dX0_truthOfOperator_112
      · replace hf := x_ifF hf c12
        refine lv_iload S.1 S.2.1 dX0_truthOfOperator_102 (lv_at hl 0 rfl) ?_
        refine lv_if_eq (tgt := 111) S.1 S.2.1 dX0_truthOfOperator_104 (by decide) (fun c13 => ?_) (fun c13 => ?_)
        · replace hf := x_ifT hf c13
          refine lv_iconst (v := 0) S.1 S.2.1 dX0_truthOfOperator_111 (by decide) ?_
          exact x_ri E rfl x_n0 hf rfl I rfl dX0_truthOfOperator_112
        · replace hf := x_ifF hf c13
          refine lv_iconst (v := 1) S.1 S.2.1 dX0_truthOfOperator_107 (by decide) ?_
          refine lv_goto (tgt := 112) S.1 S.2.1 dX0_truthOfOperator_108 (by decide) ?_
          exact x_ri E rfl x_n1 hf rfl I rfl dX0_truthOfOperator_112
set_option maxHeartbeats 4000000 in
set_option maxRecDepth 100000 in
theorem tX0_truth (l : Launch) (D : va_G) (cI cC cZ : ClassId) (h : Nat) (a : Nat → Nat) (F : xF) (G : xG) (p1 p2 p3 : Int32) (res : Int32) (hf : fX0_truth G p1 p2 p3 = some res) : xC l yX0_truth wsX0_truth rmX0_truth D [.ref h, .int p1, .int p2, .int p3] (wX0 cI cC cZ h a F G) (fun _ => (wX0 cI cC cZ h a F G)) (xT cI cC cZ) (fun t => some (.int t)) res := by
  have kX0 : ∀ w ∈ u_ws RX0 TX0 11, w ∈ wsX0_truth := by decide +kernel
  refine x_of (cc := cX0_truth) (maxL := 6) (ret := (some .boolean)) (by decide) rfl (Nat.le_of_ble_eq_true rfl) ?_
  intro p e s m args below meth c A Q ls S I E hl
  replace hl : lv_has ls 6 [(0, .ref h), (1, .int p1), (2, .int p2), (3, .int p3)] := hl
  replace hf := (fX0_truth_e _ _ _ _).symm.trans hf
  refine lv_iload_n S.1 S.2.1 dX0_truth_0 rfl (lv_at hl 2 rfl) ?_
  refine lv_aload_n S.1 S.2.1 dX0_truth_1 rfl (lv_at hl 0 rfl) ?_
  refine x_get (C := RX0) (T := TX0) (N := 11) (ci := 0) (v := .ref (a 1)) S kX0 rfl I 0 1 rfl (by decide) (by decide +kernel) rfl dX0_truth_2 ?_
  refine lv_iload_n S.1 S.2.1 dX0_truth_5 rfl (lv_at hl 1 rfl) ?_
  obtain ⟨hi1, hf⟩ := x_ldE hf
  refine x_iald (f := (G 1)) S I 2 0 rfl rfl hi1 dX0_truth_6 ?_
  obtain ⟨r3, hg2, hf⟩ := x_b1E hf
  refine x_c0 (As := [.int p2, .int ((G 1) p1.toNatClampNeg)]) (rest := []) (st' := [.int r3]) S I rfl (tX0_number l D cI cC cZ p2 ((G 1) p1.toNatClampNeg) r3 hg2) (va_cwS 2 S.2.2.2.2 gX0_truth_X0_number rfl rfl rfl (by decide +kernel) ⟨Nat.le_of_ble_eq_true rfl, Nat.le_of_ble_eq_true rfl⟩) hl rfl (Nat.le_of_ble_eq_true rfl) ⟨Nat.zero_le _, Nat.zero_le _⟩ rfl dX0_truth_7 (fun H locs I => ?_)
  refine lv_istore (lv' := [(4, .int r3), (0, .ref h), (1, .int p1), (2, .int p2), (3, .int p3)]) S.1 S.2.1 dX0_truth_10 hl (by decide) rfl (fun ls hl => ?_)
  refine lv_iload_n S.1 S.2.1 dX0_truth_12 rfl (lv_at hl 3 rfl) ?_
  refine lv_aload_n S.1 S.2.1 dX0_truth_13 rfl (lv_at hl 1 rfl) ?_
  refine x_get (C := RX0) (T := TX0) (N := 11) (ci := 0) (v := .ref (a 2)) S kX0 rfl I 0 2 rfl (by decide) (by decide +kernel) rfl dX0_truth_14 ?_
  refine lv_iload_n S.1 S.2.1 dX0_truth_17 rfl (lv_at hl 2 rfl) ?_
  obtain ⟨hi4, hf⟩ := x_ldE hf
  refine x_iald (f := (G 2)) S I 3 0 rfl rfl hi4 dX0_truth_18 ?_
  obtain ⟨r6, hg5, hf⟩ := x_b1E hf
  refine x_c0 (As := [.int p2, .int ((G 2) p1.toNatClampNeg)]) (rest := []) (st' := [.int r6]) S I rfl (tX0_number l D cI cC cZ p2 ((G 2) p1.toNatClampNeg) r6 hg5) (va_cwS 2 S.2.2.2.2 gX0_truth_X0_number rfl rfl rfl (by decide +kernel) ⟨Nat.le_of_ble_eq_true rfl, Nat.le_of_ble_eq_true rfl⟩) hl rfl (Nat.le_of_ble_eq_true rfl) ⟨Nat.zero_le _, Nat.zero_le _⟩ rfl dX0_truth_19 (fun H locs I => ?_)
  refine lv_istore (lv' := [(5, .int r6), (4, .int r3), (0, .ref h), (1, .int p1), (2, .int p2), (3, .int p3)]) S.1 S.2.1 dX0_truth_22 hl (by decide) rfl (fun ls hl => ?_)
  refine lv_aload_n S.1 S.2.1 dX0_truth_24 rfl (lv_at hl 2 rfl) ?_
  refine x_get (C := RX0) (T := TX0) (N := 11) (ci := 0) (v := .ref (a 0)) S kX0 rfl I 0 0 rfl (by decide) (by decide +kernel) rfl dX0_truth_25 ?_
  refine lv_iload_n S.1 S.2.1 dX0_truth_28 rfl (lv_at hl 3 rfl) ?_
  obtain ⟨hi7, hf⟩ := x_ldE hf
  refine x_cald (f := (G 0)) S I 1 1 rfl rfl hi7 dX0_truth_29 ?_
  by_cases c8 : ((G 0) p1.toNatClampNeg) = 33
  · replace hf := x_ifT hf c8
    refine lv_lookup (off := 92) (tgt := 122) S.1 S.2.1 dX0_truth_30 (by decide) (by rw [c8]; rfl) (by decide) ?_
    refine lv_aload_n S.1 S.2.1 dX0_truth_122 rfl (lv_at hl 2 rfl) ?_
    refine x_get (C := RX0) (T := TX0) (N := 11) (ci := 0) (v := .ref (a 8)) S kX0 rfl I 0 8 rfl (by decide) (by decide +kernel) rfl dX0_truth_123 ?_
    refine lv_aload_n S.1 S.2.1 dX0_truth_126 rfl (lv_at hl 2 rfl) ?_
    refine x_get (C := RX0) (T := TX0) (N := 11) (ci := 0) (v := .ref (a 3)) S kX0 rfl I 0 3 rfl (by decide) (by decide +kernel) rfl dX0_truth_127 ?_
    refine lv_iload_n S.1 S.2.1 dX0_truth_130 rfl (lv_at hl 3 rfl) ?_
    obtain ⟨hi9, hf⟩ := x_ldE hf
    refine x_iald (f := (G 3)) S I 4 0 rfl rfl hi9 dX0_truth_131 ?_
    refine lv_bipush (v := 125) S.1 S.2.1 dX0_truth_132 (by decide) ?_
    refine lv_imul S.1 S.2.1 dX0_truth_134 ?_
    refine lv_iload_n S.1 S.2.1 dX0_truth_135 rfl (lv_at hl 4 rfl) ?_
    refine lv_iadd S.1 S.2.1 dX0_truth_136 ?_
    obtain ⟨hi10, hf⟩ := x_ldE hf
    refine x_zald (f := (G 8)) S I 9 2 rfl rfl hi10 dX0_truth_137 ?_
    refine lv_if_ne (tgt := 145) S.1 S.2.1 dX0_truth_138 (by decide) (fun c11 => ?_) (fun c11 => ?_)
    · replace hf := x_ifF hf c11
      refine lv_iconst (v := 0) S.1 S.2.1 dX0_truth_145 (by decide) ?_
      exact x_ri E rfl x_n0 hf rfl I rfl dX0_truth_146
    · replace hf := x_ifT hf c11
      refine lv_iconst (v := 1) S.1 S.2.1 dX0_truth_141 (by decide) ?_
      refine lv_goto (tgt := 146) S.1 S.2.1 dX0_truth_142 (by decide) ?_
      exact x_ri E rfl x_n1 hf rfl I rfl dX0_truth_146
  · replace hf := x_ifF hf c8
    by_cases c12 : ((G 0) p1.toNatClampNeg) = 60
    · replace hf := x_ifT hf c12
      refine lv_lookup (off := 66) (tgt := 96) S.1 S.2.1 dX0_truth_30 (by decide) ((lv_osw c8 (by decide)).trans (by rw [c12]; rfl)) (by decide) ?_
      refine lv_iload S.1 S.2.1 dX0_truth_96 (lv_at hl 1 rfl) ?_
      refine lv_iload S.1 S.2.1 dX0_truth_98 (lv_at hl 0 rfl) ?_
      refine lv_icmp_ge (tgt := 107) S.1 S.2.1 dX0_truth_100 (by decide) (fun c13 => ?_) (fun c13 => ?_)
      · replace hf := x_ifT hf c13
        refine lv_iconst (v := 0) S.1 S.2.1 dX0_truth_107 (by decide) ?_
        exact x_ri E rfl x_n0 hf rfl I rfl dX0_truth_108
      · replace hf := x_ifF hf c13
        refine lv_iconst (v := 1) S.1 S.2.1 dX0_truth_103 (by decide) ?_
        refine lv_goto (tgt := 108) S.1 S.2.1 dX0_truth_104 (by decide) ?_
        exact x_ri E rfl x_n1 hf rfl I rfl dX0_truth_108
    · replace hf := x_ifF hf c12
      by_cases c14 : ((G 0) p1.toNatClampNeg) = 61
      · replace hf := x_ifT hf c14
        refine lv_lookup (off := 79) (tgt := 109) S.1 S.2.1 dX0_truth_30 (by decide) ((lv_osw c8 (by decide)).trans ((lv_osw c12 (by decide)).trans (by rw [c14]; rfl))) (by decide) ?_
        refine lv_iload S.1 S.2.1 dX0_truth_109 (lv_at hl 1 rfl) ?_
        refine lv_iload S.1 S.2.1 dX0_truth_111 (lv_at hl 0 rfl) ?_
        refine lv_icmp_ne (tgt := 120) S.1 S.2.1 dX0_truth_113 (by decide) (fun c15 => ?_) (fun c15 => ?_)
        · replace hf := x_ifF hf c15
          refine lv_iconst (v := 0) S.1 S.2.1 dX0_truth_120 (by decide) ?_
          exact x_ri E rfl x_n0 hf rfl I rfl dX0_truth_121
        · replace hf := x_ifT hf c15
          refine lv_iconst (v := 1) S.1 S.2.1 dX0_truth_116 (by decide) ?_
          refine lv_goto (tgt := 121) S.1 S.2.1 dX0_truth_117 (by decide) ?_
          exact x_ri E rfl x_n1 hf rfl I rfl dX0_truth_121
      · replace hf := x_ifF hf c14
        by_cases c16 : ((G 0) p1.toNatClampNeg) = 65
        · replace hf := x_ifT hf c16
          refine lv_lookup (off := 117) (tgt := 147) S.1 S.2.1 dX0_truth_30 (by decide) ((lv_osw c8 (by decide)).trans ((lv_osw c12 (by decide)).trans ((lv_osw c14 (by decide)).trans (by rw [c16]; rfl)))) (by decide) ?_
          refine lv_aload_n S.1 S.2.1 dX0_truth_147 rfl (lv_at hl 2 rfl) ?_
          refine lv_iload_n S.1 S.2.1 dX0_truth_148 rfl (lv_at hl 3 rfl) ?_
          refine lv_iload_n S.1 S.2.1 dX0_truth_149 rfl (lv_at hl 4 rfl) ?_
          refine lv_iload_n S.1 S.2.1 dX0_truth_150 rfl (lv_at hl 5 rfl) ?_
          refine lv_iconst (v := 0) S.1 S.2.1 dX0_truth_151 (by decide) ?_
          obtain ⟨r18, hg17, hf⟩ := x_b1E hf
          refine x_cA (As := [.int p1, .int p2, .int p3, .int 0]) (rest := []) (st' := [.int r18]) (ws' := (wX0 cI cC cZ h a F G)) S I (tX0_isSomewhere l D cI cC cZ h a F G p1 p2 p3 0 r18 hg17) (cwV 4 S.2.2.2.2 gX0_truth_X0_isSomewhere rfl rfl rfl (by decide +kernel) ⟨Nat.le_of_ble_eq_true rfl, Nat.le_of_ble_eq_true rfl⟩) 0 0 rfl rfl rfl rfl hl rfl (Nat.le_of_ble_eq_true rfl) ⟨Nat.zero_le _, Nat.zero_le _⟩ rfl dX0_truth_152 (fun H locs I => ?_)
          refine lv_if_ne (tgt := 162) S.1 S.2.1 dX0_truth_155 (by decide) (fun c19 => ?_) (fun c19 => ?_)
          · replace hf := x_ifF hf c19
            refine lv_iconst (v := 0) S.1 S.2.1 dX0_truth_162 (by decide) ?_
            exact x_ri E rfl x_n0 hf rfl I rfl dX0_truth_163
          · replace hf := x_ifT hf c19
            refine lv_iconst (v := 1) S.1 S.2.1 dX0_truth_158 (by decide) ?_
            refine lv_goto (tgt := 163) S.1 S.2.1 dX0_truth_159 (by decide) ?_
            exact x_ri E rfl x_n1 hf rfl I rfl dX0_truth_163
        · replace hf := x_ifF hf c16
          by_cases c20 : ((G 0) p1.toNatClampNeg) = 69
          · replace hf := x_ifT hf c20
            refine lv_lookup (off := 134) (tgt := 164) S.1 S.2.1 dX0_truth_30 (by decide) ((lv_osw c8 (by decide)).trans ((lv_osw c12 (by decide)).trans ((lv_osw c14 (by decide)).trans ((lv_osw c16 (by decide)).trans (by rw [c20]; rfl))))) (by decide) ?_
            refine lv_aload_n S.1 S.2.1 dX0_truth_164 rfl (lv_at hl 2 rfl) ?_
            refine lv_iload_n S.1 S.2.1 dX0_truth_165 rfl (lv_at hl 3 rfl) ?_
            refine lv_iload_n S.1 S.2.1 dX0_truth_166 rfl (lv_at hl 4 rfl) ?_
            refine lv_iload_n S.1 S.2.1 dX0_truth_167 rfl (lv_at hl 5 rfl) ?_
            refine lv_iconst (v := 1) S.1 S.2.1 dX0_truth_168 (by decide) ?_
            obtain ⟨r22, hg21, hf⟩ := x_b1E hf
            refine x_cA (As := [.int p1, .int p2, .int p3, .int 1]) (rest := []) (st' := [.int r22]) (ws' := (wX0 cI cC cZ h a F G)) S I (tX0_isSomewhere l D cI cC cZ h a F G p1 p2 p3 1 r22 hg21) (cwV 4 S.2.2.2.2 gX0_truth_X0_isSomewhere rfl rfl rfl (by decide +kernel) ⟨Nat.le_of_ble_eq_true rfl, Nat.le_of_ble_eq_true rfl⟩) 0 0 rfl rfl rfl rfl hl rfl (Nat.le_of_ble_eq_true rfl) ⟨Nat.zero_le _, Nat.zero_le _⟩ rfl dX0_truth_169 (fun H locs I => ?_)
            exact x_ri E rfl rfl hf rfl I rfl dX0_truth_172
          · replace hf := x_ifF hf c20
            by_cases c23 : ((G 0) p1.toNatClampNeg) = 97
            · replace hf := x_ifT hf c23
              refine lv_lookup (off := 143) (tgt := 173) S.1 S.2.1 dX0_truth_30 (by decide) ((lv_osw c8 (by decide)).trans ((lv_osw c12 (by decide)).trans ((lv_osw c14 (by decide)).trans ((lv_osw c16 (by decide)).trans ((lv_osw c20 (by decide)).trans (by rw [c23]; rfl)))))) (by decide) ?_
              refine lv_aload_n S.1 S.2.1 dX0_truth_173 rfl (lv_at hl 2 rfl) ?_
              refine lv_iload_n S.1 S.2.1 dX0_truth_174 rfl (lv_at hl 3 rfl) ?_
              refine lv_iload_n S.1 S.2.1 dX0_truth_175 rfl (lv_at hl 4 rfl) ?_
              refine lv_iload S.1 S.2.1 dX0_truth_176 (lv_at hl 0 rfl) ?_
              refine lv_iconst (v := 0) S.1 S.2.1 dX0_truth_178 (by decide) ?_
              obtain ⟨r25, hg24, hf⟩ := x_b1E hf
              refine x_cA (As := [.int p1, .int p2, .int r6, .int 0]) (rest := []) (st' := [.int r25]) (ws' := (wX0 cI cC cZ h a F G)) S I (tX0_isSomewhere l D cI cC cZ h a F G p1 p2 r6 0 r25 hg24) (cwV 4 S.2.2.2.2 gX0_truth_X0_isSomewhere rfl rfl rfl (by decide +kernel) ⟨Nat.le_of_ble_eq_true rfl, Nat.le_of_ble_eq_true rfl⟩) 0 0 rfl rfl rfl rfl hl rfl (Nat.le_of_ble_eq_true rfl) ⟨Nat.zero_le _, Nat.zero_le _⟩ rfl dX0_truth_179 (fun H locs I => ?_)
              refine lv_if_ne (tgt := 189) S.1 S.2.1 dX0_truth_182 (by decide) (fun c26 => ?_) (fun c26 => ?_)
              · replace hf := x_ifF hf c26
                refine lv_iconst (v := 0) S.1 S.2.1 dX0_truth_189 (by decide) ?_
                exact x_ri E rfl x_n0 hf rfl I rfl dX0_truth_190
              · replace hf := x_ifT hf c26
                refine lv_iconst (v := 1) S.1 S.2.1 dX0_truth_185 (by decide) ?_
                refine lv_goto (tgt := 190) S.1 S.2.1 dX0_truth_186 (by decide) ?_
                exact x_ri E rfl x_n1 hf rfl I rfl dX0_truth_190
            · replace hf := x_ifF hf c23
              by_cases c27 : ((G 0) p1.toNatClampNeg) = 101
              · replace hf := x_ifT hf c27
                refine lv_lookup (off := 161) (tgt := 191) S.1 S.2.1 dX0_truth_30 (by decide) ((lv_osw c8 (by decide)).trans ((lv_osw c12 (by decide)).trans ((lv_osw c14 (by decide)).trans ((lv_osw c16 (by decide)).trans ((lv_osw c20 (by decide)).trans ((lv_osw c23 (by decide)).trans (by rw [c27]; rfl))))))) (by decide) ?_
                refine lv_aload_n S.1 S.2.1 dX0_truth_191 rfl (lv_at hl 2 rfl) ?_
                refine lv_iload_n S.1 S.2.1 dX0_truth_192 rfl (lv_at hl 3 rfl) ?_
                refine lv_iload_n S.1 S.2.1 dX0_truth_193 rfl (lv_at hl 4 rfl) ?_
                refine lv_iload S.1 S.2.1 dX0_truth_194 (lv_at hl 0 rfl) ?_
                refine lv_iconst (v := 1) S.1 S.2.1 dX0_truth_196 (by decide) ?_
                obtain ⟨r29, hg28, hf⟩ := x_b1E hf
                refine x_cA (As := [.int p1, .int p2, .int r6, .int 1]) (rest := []) (st' := [.int r29]) (ws' := (wX0 cI cC cZ h a F G)) S I (tX0_isSomewhere l D cI cC cZ h a F G p1 p2 r6 1 r29 hg28) (cwV 4 S.2.2.2.2 gX0_truth_X0_isSomewhere rfl rfl rfl (by decide +kernel) ⟨Nat.le_of_ble_eq_true rfl, Nat.le_of_ble_eq_true rfl⟩) 0 0 rfl rfl rfl rfl hl rfl (Nat.le_of_ble_eq_true rfl) ⟨Nat.zero_le _, Nat.zero_le _⟩ rfl dX0_truth_197 (fun H locs I => ?_)
                exact x_ri E rfl rfl hf rfl I rfl dX0_truth_200
              · replace hf := x_ifF hf c27
                refine lv_lookup (off := 171) (tgt := 201) S.1 S.2.1 dX0_truth_30 (by decide) ((lv_osw c8 (by decide)).trans ((lv_osw c12 (by decide)).trans ((lv_osw c14 (by decide)).trans ((lv_osw c16 (by decide)).trans ((lv_osw c20 (by decide)).trans ((lv_osw c23 (by decide)).trans ((lv_osw c27 (by decide)).trans (rfl)))))))) (by decide) ?_
                refine lv_aload_n S.1 S.2.1 dX0_truth_201 rfl (lv_at hl 2 rfl) ?_
                refine lv_iload_n S.1 S.2.1 dX0_truth_202 rfl (lv_at hl 3 rfl) ?_
                refine lv_iload_n S.1 S.2.1 dX0_truth_203 rfl (lv_at hl 4 rfl) ?_
                obtain ⟨r31, hg30, hf⟩ := x_b1E hf
                refine x_cA (As := [.int p1, .int p2]) (rest := []) (st' := [.int r31]) (ws' := (wX0 cI cC cZ h a F G)) S I (tX0_truthOfOperator l D cI cC cZ h a F G p1 p2 r31 hg30) (cwV 2 S.2.2.2.2 gX0_truth_X0_truthOfOperator rfl rfl rfl (by decide +kernel) ⟨Nat.le_of_ble_eq_true rfl, Nat.le_of_ble_eq_true rfl⟩) 0 0 rfl rfl rfl rfl hl rfl (Nat.le_of_ble_eq_true rfl) ⟨Nat.zero_le _, Nat.zero_le _⟩ rfl dX0_truth_204 (fun H locs I => ?_)
                exact x_ri E rfl rfl hf rfl I rfl dX0_truth_207
set_option maxHeartbeats 4000000 in
set_option maxRecDepth 100000 in
theorem tX0_isTrue (l : Launch) (D : va_G) (cI cC cZ : ClassId) (h : Nat) (a : Nat → Nat) (F : xF) (G : xG) (p1 p2 p3 p4 : Int32) (res : Int32 × xG) (hf : fX0_isTrue F G p1 p2 p3 p4 = some res) : xC l yX0_isTrue wsX0_isTrue rmX0_isTrue D [.ref h, .int p1, .int p2, .int p3, .int p4] (wX0 cI cC cZ h a F G) (fun t => (wX0 cI cC cZ h a F t.2)) (xT cI cC cZ) (fun t => some (.int t.1)) res := by
  have kX0 : ∀ w ∈ u_ws RX0 TX0 11, w ∈ wsX0_isTrue := by decide +kernel
  refine x_of (cc := cX0_isTrue) (maxL := 7) (ret := (some .boolean)) (by decide) rfl (Nat.le_of_ble_eq_true rfl) ?_
  intro p e s m args below meth c A Q ls S I E hl
  replace hl : lv_has ls 7 [(0, .ref h), (1, .int p1), (2, .int p2), (3, .int p3), (4, .int p4)] := hl
  replace hf := (fX0_isTrue_e _ _ _ _ _ _).symm.trans hf
  refine lv_aload_n S.1 S.2.1 dX0_isTrue_0 rfl (lv_at hl 0 rfl) ?_
  refine x_get (C := RX0) (T := TX0) (N := 11) (ci := 0) (v := .int (F 9)) S kX0 rfl I 0 9 rfl (by decide) (by decide +kernel) rfl dX0_isTrue_1 ?_
  refine lv_iconst (v := 1) S.1 S.2.1 dX0_isTrue_4 (by decide) ?_
  refine lv_isub S.1 S.2.1 dX0_isTrue_5 ?_
  refine lv_istore (lv' := [(5, .int ((F 9) - 1)), (0, .ref h), (1, .int p1), (2, .int p2), (3, .int p3), (4, .int p4)]) S.1 S.2.1 dX0_isTrue_6 hl (by decide) rfl (fun ls hl => ?_)
  have hx57 : ∀ (G1 : xG) (H : Heap) (locs : List Loc) (ls : Array Slot), (fX0_isTrue_x57 p2 p3 p4) G1 = some res → xI D A s (wX0 cI cC cZ h a F G1) (xT cI cC cZ) H locs → lv_has ls 7 [(0, .ref h), (2, .int p2), (3, .int p3), (4, .int p4)] → W p l e (headSpec wsX0_isTrue rmX0_isTrue).room s m args below meth c H locs 0 0 Q (F0 m 57 ls []) := by
    intro G1 H locs ls hf I hl
    replace hf := (fX0_isTrue_x57_e _ _ _ _).symm.trans hf
    refine lv_aload_n S.1 S.2.1 dX0_isTrue_57 rfl (lv_at hl 0 rfl) ?_
    refine x_get (C := RX0) (T := TX0) (N := 11) (ci := 0) (v := .ref (a 8)) S kX0 rfl I 0 8 rfl (by decide) (by decide +kernel) rfl dX0_isTrue_58 ?_
    refine lv_iload_n S.1 S.2.1 dX0_isTrue_61 rfl (lv_at hl 1 rfl) ?_
    refine lv_iconst (v := 0) S.1 S.2.1 dX0_isTrue_62 (by decide) ?_
    obtain ⟨r3, hg2, hf⟩ := x_b1E hf
    refine x_c0 (As := [.int 0]) (rest := [.int p2, .ref (a 8)]) (st' := [.int r3, .int p2, .ref (a 8)]) S I rfl (tX0_step l D cI cC cZ 0 r3 hg2) (va_cwS 1 S.2.2.2.2 gX0_isTrue_X0_step rfl rfl rfl (by decide +kernel) ⟨Nat.le_of_ble_eq_true rfl, Nat.le_of_ble_eq_true rfl⟩) hl rfl (Nat.le_of_ble_eq_true rfl) ⟨Nat.zero_le _, Nat.zero_le _⟩ rfl dX0_isTrue_63 (fun H locs I => ?_)
    refine lv_imul S.1 S.2.1 dX0_isTrue_66 ?_
    refine lv_iload_n S.1 S.2.1 dX0_isTrue_67 rfl (lv_at hl 2 rfl) ?_
    refine lv_iconst (v := 1) S.1 S.2.1 dX0_isTrue_68 (by decide) ?_
    obtain ⟨r5, hg4, hf⟩ := x_b1E hf
    refine x_c0 (As := [.int 1]) (rest := [.int p3, .int (p2 * r3), .ref (a 8)]) (st' := [.int r5, .int p3, .int (p2 * r3), .ref (a 8)]) S I rfl (tX0_step l D cI cC cZ 1 r5 hg4) (va_cwS 1 S.2.2.2.2 gX0_isTrue_X0_step rfl rfl rfl (by decide +kernel) ⟨Nat.le_of_ble_eq_true rfl, Nat.le_of_ble_eq_true rfl⟩) hl rfl (Nat.le_of_ble_eq_true rfl) ⟨Nat.zero_le _, Nat.zero_le _⟩ rfl dX0_isTrue_69 (fun H locs I => ?_)
    refine lv_imul S.1 S.2.1 dX0_isTrue_72 ?_
    refine lv_iadd S.1 S.2.1 dX0_isTrue_73 ?_
    refine lv_iload S.1 S.2.1 dX0_isTrue_74 (lv_at hl 3 rfl) ?_
    refine lv_iconst (v := 2) S.1 S.2.1 dX0_isTrue_76 (by decide) ?_
    obtain ⟨r7, hg6, hf⟩ := x_b1E hf
    refine x_c0 (As := [.int 2]) (rest := [.int p4, .int ((p2 * r3) + (p3 * r5)), .ref (a 8)]) (st' := [.int r7, .int p4, .int ((p2 * r3) + (p3 * r5)), .ref (a 8)]) S I rfl (tX0_step l D cI cC cZ 2 r7 hg6) (va_cwS 1 S.2.2.2.2 gX0_isTrue_X0_step rfl rfl rfl (by decide +kernel) ⟨Nat.le_of_ble_eq_true rfl, Nat.le_of_ble_eq_true rfl⟩) hl rfl (Nat.le_of_ble_eq_true rfl) ⟨Nat.zero_le _, Nat.zero_le _⟩ rfl dX0_isTrue_77 (fun H locs I => ?_)
    refine lv_imul S.1 S.2.1 dX0_isTrue_80 ?_
    refine lv_iadd S.1 S.2.1 dX0_isTrue_81 ?_
    obtain ⟨hi8, hf⟩ := x_ldE hf
    refine x_zald (f := (G1 8)) S I 9 2 rfl rfl hi8 dX0_isTrue_82 ?_
    exact x_ri E rfl rfl hf rfl I rfl dX0_isTrue_83
  have hl8 : ∀ (n8 : Nat), ∀ (v9 : Int32) (G10 : xG) (H : Heap) (locs : List Loc) (ls : Array Slot), (fX0_isTrue_l8 p2 p3 p4 p1 n8) v9 G10 = some res → xI D A s (wX0 cI cC cZ h a F G10) (xT cI cC cZ) H locs → lv_has ls 7 [(5, .int v9), (0, .ref h), (1, .int p1), (2, .int p2), (3, .int p3), (4, .int p4)] → W p l e (headSpec wsX0_isTrue rmX0_isTrue).room s m args below meth c H locs 0 0 Q (F0 m 8 ls []) := by
    intro n8
    induction n8 with
    | zero =>
      intro v9 G10 H locs ls hf I hl
      cases (fX0_isTrue_l8_z _ _ _ _ _ _).symm.trans hf
    | succ n8 ih8 =>
      intro v9 G10 H locs ls hf I hl
      replace hf := (fX0_isTrue_l8_e _ _ _ _ _ _ _).symm.trans hf
      refine lv_iload S.1 S.2.1 dX0_isTrue_8 (lv_at hl 0 rfl) ?_
      refine lv_if_lt (tgt := 57) S.1 S.2.1 dX0_isTrue_10 (by decide) (fun c11 => ?_) (fun c11 => ?_)
      · replace hf := x_ifT hf c11
        exact hx57 G10 _ _ _ hf I (lv_sub hl [1, 3, 4, 5] rfl)
      · replace hf := x_ifF hf c11
        refine lv_iconst (v := 0) S.1 S.2.1 dX0_isTrue_13 (by decide) ?_
        refine lv_istore (lv' := [(6, .int 0), (5, .int v9), (0, .ref h), (1, .int p1), (2, .int p2), (3, .int p3), (4, .int p4)]) S.1 S.2.1 dX0_isTrue_14 hl (by decide) rfl (fun ls hl => ?_)
        have hx51 : ∀ (G12 : xG) (H : Heap) (locs : List Loc) (ls : Array Slot), (fX0_isTrue_x51 (fX0_isTrue_l8 p2 p3 p4 p1 n8) v9) G12 = some res → xI D A s (wX0 cI cC cZ h a F G12) (xT cI cC cZ) H locs → lv_has ls 7 [(5, .int v9), (0, .ref h), (1, .int p1), (2, .int p2), (3, .int p3), (4, .int p4)] → W p l e (headSpec wsX0_isTrue rmX0_isTrue).room s m args below meth c H locs 0 0 Q (F0 m 51 ls []) := by
          intro G12 H locs ls hf I hl
          replace hf := (fX0_isTrue_x51_e _ _ _).symm.trans hf
          refine lv_iinc (v := (v9 + (-1))) (lv' := [(5, .int (v9 + (-1))), (0, .ref h), (1, .int p1), (2, .int p2), (3, .int p3), (4, .int p4)]) S.1 S.2.1 dX0_isTrue_51 hl (k := 0) rfl rfl (by decide) rfl (fun ls hl => ?_)
          refine lv_goto (tgt := 8) S.1 S.2.1 dX0_isTrue_54 (by decide) ?_
          exact ih8 (v9 + (-1)) G12 _ _ _ hf I (lv_sub hl [0, 1, 2, 3, 4, 5] rfl)
        have hl16 : ∀ (n16 : Nat), ∀ (v13 : Int32) (G14 : xG) (H : Heap) (locs : List Loc) (ls : Array Slot), (fX0_isTrue_l16 (fX0_isTrue_l8 p2 p3 p4 p1 n8) v9 p1 n16) v13 G14 = some res → xI D A s (wX0 cI cC cZ h a F G14) (xT cI cC cZ) H locs → lv_has ls 7 [(6, .int v13), (5, .int v9), (0, .ref h), (1, .int p1), (2, .int p2), (3, .int p3), (4, .int p4)] → W p l e (headSpec wsX0_isTrue rmX0_isTrue).room s m args below meth c H locs 0 0 Q (F0 m 16 ls []) := by
          intro n16
          induction n16 with
          | zero =>
            intro v13 G14 H locs ls hf I hl
            cases (fX0_isTrue_l16_z _ _ _ _ _).symm.trans hf
          | succ n16 ih16 =>
            intro v13 G14 H locs ls hf I hl
            replace hf := (fX0_isTrue_l16_e _ _ _ _ _ _).symm.trans hf
            refine lv_iload S.1 S.2.1 dX0_isTrue_16 (lv_at hl 0 rfl) ?_
            refine lv_bipush (v := 125) S.1 S.2.1 dX0_isTrue_18 (by decide) ?_
            refine lv_icmp_ge (tgt := 51) S.1 S.2.1 dX0_isTrue_20 (by decide) (fun c15 => ?_) (fun c15 => ?_)
            · replace hf := x_ifT hf c15
              exact hx51 G14 _ _ _ hf I (lv_sub hl [1, 2, 3, 4, 5, 6] rfl)
            · replace hf := x_ifF hf c15
              refine lv_aload_n S.1 S.2.1 dX0_isTrue_23 rfl (lv_at hl 2 rfl) ?_
              refine x_get (C := RX0) (T := TX0) (N := 11) (ci := 0) (v := .ref (a 8)) S kX0 rfl I 0 8 rfl (by decide) (by decide +kernel) rfl dX0_isTrue_24 ?_
              refine lv_iload S.1 S.2.1 dX0_isTrue_27 (lv_at hl 1 rfl) ?_
              refine lv_bipush (v := 125) S.1 S.2.1 dX0_isTrue_29 (by decide) ?_
              refine lv_imul S.1 S.2.1 dX0_isTrue_31 ?_
              refine lv_iload S.1 S.2.1 dX0_isTrue_32 (lv_at hl 0 rfl) ?_
              refine lv_iadd S.1 S.2.1 dX0_isTrue_34 ?_
              refine lv_aload_n S.1 S.2.1 dX0_isTrue_35 rfl (lv_at hl 2 rfl) ?_
              refine lv_iload S.1 S.2.1 dX0_isTrue_36 (lv_at hl 1 rfl) ?_
              refine lv_iload S.1 S.2.1 dX0_isTrue_38 (lv_at hl 0 rfl) ?_
              refine lv_iload_n S.1 S.2.1 dX0_isTrue_40 rfl (lv_at hl 3 rfl) ?_
              obtain ⟨r17, hg16, hf⟩ := x_b1E hf
              refine x_cA (As := [.int v9, .int v13, .int p1]) (rest := [.int ((v9 * 125) + v13), .ref (a 8)]) (st' := [.int r17, .int ((v9 * 125) + v13), .ref (a 8)]) (ws' := (wX0 cI cC cZ h a F G14)) S I (tX0_truth l D cI cC cZ h a F G14 v9 v13 p1 r17 hg16) (cwV 3 S.2.2.2.2 gX0_isTrue_X0_truth rfl rfl rfl (by decide +kernel) ⟨Nat.le_of_ble_eq_true rfl, Nat.le_of_ble_eq_true rfl⟩) 0 0 rfl rfl rfl rfl hl rfl (Nat.le_of_ble_eq_true rfl) ⟨Nat.zero_le _, Nat.zero_le _⟩ rfl dX0_isTrue_41 (fun H locs I => ?_)
              obtain ⟨hi18, hf⟩ := x_ldE hf
              refine x_zast (f := (G14 8)) (ws' := (wX0 cI cC cZ h a F (va_up G14 8 (upd (G14 8) ((v9 * 125) + v13).toNatClampNeg (x_zn r17))))) S I 9 2 rfl rfl hi18 rfl dX0_isTrue_44 (fun H locs I => ?_)
              refine lv_iinc (v := (v13 + 1)) (lv' := [(6, .int (v13 + 1)), (5, .int v9), (0, .ref h), (1, .int p1), (2, .int p2), (3, .int p3), (4, .int p4)]) S.1 S.2.1 dX0_isTrue_45 hl (k := 0) rfl rfl (by decide) rfl (fun ls hl => ?_)
              refine lv_goto (tgt := 16) S.1 S.2.1 dX0_isTrue_48 (by decide) ?_
              exact ih16 (v13 + 1) (va_up G14 8 (upd (G14 8) ((v9 * 125) + v13).toNatClampNeg (x_zn r17))) _ _ _ hf I (lv_sub hl [0, 1, 2, 3, 4, 5, 6] rfl)
        exact hl16 4096 0 G10 _ _ _ hf I (lv_sub hl [0, 1, 2, 3, 4, 5, 6] rfl)
  exact hl8 4096 ((F 9) - 1) G _ _ _ hf I (lv_sub hl [0, 1, 2, 3, 4, 5] rfl)
