set_option maxHeartbeats 4000000 in
set_option maxRecDepth 100000 in
theorem tX3_solving (l : Launch) (D : va_G) (cI cC cZ : ClassId) (p1 p2 : Int32) (res : Int32) (hf : fX3_solving p1 p2 = some res) : xC l yX3_solving wsX3_solving rmX3_solving D [.int p1, .int p2] [] (fun _ => []) (xT cI cC cZ) (fun t => some (.int t)) res := by
  refine x_of (cc := cX3_solving) (maxL := 2) (ret := (some .int)) (by decide) rfl (Nat.le_of_ble_eq_true rfl) ?_
  intro p e s m args below meth c A Q ls S I E hl
  replace hl : lv_has ls 2 [(0, .int p1), (1, .int p2)] := hl
  replace hf := (fX3_solving_e _ _).symm.trans hf
  refine lv_iload_n S.1 S.2.1 dX3_solving_0 rfl (lv_at hl 0 rfl) ?_
  refine lv_iconst (v := 4) S.1 S.2.1 dX3_solving_1 (by decide) ?_
  refine lv_iload_n S.1 S.2.1 dX3_solving_2 rfl (lv_at hl 1 rfl) ?_
  refine lv_imul S.1 S.2.1 dX3_solving_3 ?_
  refine lv_iushr (v := (x_ush p1 (4 * p2))) S.1 S.2.1 dX3_solving_4 rfl ?_
  refine lv_bipush (v := 15) S.1 S.2.1 dX3_solving_5 (by decide) ?_
  refine lv_iand S.1 S.2.1 dX3_solving_7 ?_
  exact x_ri E rfl rfl hf rfl I rfl dX3_solving_8
set_option maxHeartbeats 4000000 in
set_option maxRecDepth 100000 in
theorem tX3_areInRange (l : Launch) (D : va_G) (cI cC cZ : ClassId) (p1 p2 p3 : Int32) (res : Int32) (hf : fX3_areInRange p1 p2 p3 = some res) : xC l yX3_areInRange wsX3_areInRange rmX3_areInRange D [.int p1, .int p2, .int p3] [] (fun _ => []) (xT cI cC cZ) (fun t => some (.int t)) res := by
  refine x_of (cc := cX3_areInRange) (maxL := 5) (ret := (some .boolean)) (by decide) rfl (Nat.le_of_ble_eq_true rfl) ?_
  intro p e s m args below meth c A Q ls S I E hl
  replace hl : lv_has ls 5 [(0, .int p1), (1, .int p2), (2, .int p3)] := hl
  replace hf := (fX3_areInRange_e _ _ _).symm.trans hf
  refine lv_iconst (v := 1) S.1 S.2.1 dX3_areInRange_0 (by decide) ?_
  refine lv_iload_n S.1 S.2.1 dX3_areInRange_1 rfl (lv_at hl 0 rfl) ?_
  refine lv_iconst (v := 4) S.1 S.2.1 dX3_areInRange_2 (by decide) ?_
  obtain ⟨r2, hg1, hf⟩ := x_b1E hf
  refine x_c0N (host := "ReversalCourt") (n := 3) (As := [.int 1, .int p1, .int 4]) (rest := []) (st' := [.int r2]) S I rfl (tX5_isBetween l D cI cC cZ 1 p1 4 r2 hg1) gX3_areInRange_X5_isBetween_n34 rfl rfl rfl (by decide +kernel) (by decide +kernel) (by decide +kernel) (by decide +kernel) ⟨Nat.le_of_ble_eq_true rfl, Nat.le_of_ble_eq_true rfl⟩ hl rfl (Nat.le_of_ble_eq_true rfl) ⟨Nat.zero_le _, Nat.zero_le _⟩ rfl dX3_areInRange_3 (fun H locs I => ?_)
  refine lv_if_eq (tgt := 18) S.1 S.2.1 dX3_areInRange_6 (by decide) (fun c3 => ?_) (fun c3 => ?_)
  · replace hf := x_ifT hf c3
    refine lv_iconst (v := 0) S.1 S.2.1 dX3_areInRange_18 (by decide) ?_
    exact x_ri E rfl x_n0 hf rfl I rfl dX3_areInRange_19
  · replace hf := x_ifF hf c3
    refine lv_iconst (v := 1) S.1 S.2.1 dX3_areInRange_9 (by decide) ?_
    refine lv_iload_n S.1 S.2.1 dX3_areInRange_10 rfl (lv_at hl 1 rfl) ?_
    refine lv_iconst (v := 4) S.1 S.2.1 dX3_areInRange_11 (by decide) ?_
    obtain ⟨r5, hg4, hf⟩ := x_b1E hf
    refine x_c0N (host := "ReversalCourt") (n := 3) (As := [.int 1, .int p2, .int 4]) (rest := []) (st' := [.int r5]) S I rfl (tX5_isBetween l D cI cC cZ 1 p2 4 r5 hg4) gX3_areInRange_X5_isBetween_n34 rfl rfl rfl (by decide +kernel) (by decide +kernel) (by decide +kernel) (by decide +kernel) ⟨Nat.le_of_ble_eq_true rfl, Nat.le_of_ble_eq_true rfl⟩ hl rfl (Nat.le_of_ble_eq_true rfl) ⟨Nat.zero_le _, Nat.zero_le _⟩ rfl dX3_areInRange_12 (fun H locs I => ?_)
    refine lv_if_ne (tgt := 20) S.1 S.2.1 dX3_areInRange_15 (by decide) (fun c6 => ?_) (fun c6 => ?_)
    · replace hf := x_ifF hf c6
      refine lv_iconst (v := 0) S.1 S.2.1 dX3_areInRange_20 (by decide) ?_
      refine lv_istore_n (lv' := [(3, .int 0), (0, .int p1), (1, .int p2), (2, .int p3)]) S.1 S.2.1 dX3_areInRange_21 rfl hl (by decide) rfl (fun ls hl => ?_)
      have hx54 : ∀  (H : Heap) (locs : List Loc) (ls : Array Slot), (fX3_areInRange_x54 p3 p1) = some res → xI D A s [] (xT cI cC cZ) H locs → lv_has ls 5 [(0, .int p1), (2, .int p3)] → W p l e (headSpec wsX3_areInRange rmX3_areInRange).room s m args below meth c H locs 0 0 Q (F0 m 54 ls []) := by
        intro  H locs ls hf I hl
        replace hf := (fX3_areInRange_x54_e _ _).symm.trans hf
        refine lv_iload_n S.1 S.2.1 dX3_areInRange_54 rfl (lv_at hl 1 rfl) ?_
        refine lv_iconst (v := 4) S.1 S.2.1 dX3_areInRange_55 (by decide) ?_
        refine lv_iload_n S.1 S.2.1 dX3_areInRange_56 rfl (lv_at hl 0 rfl) ?_
        refine lv_imul S.1 S.2.1 dX3_areInRange_57 ?_
        refine lv_iushr (v := (x_ush p3 (4 * p1))) S.1 S.2.1 dX3_areInRange_58 rfl ?_
        refine lv_if_ne (tgt := 66) S.1 S.2.1 dX3_areInRange_59 (by decide) (fun c7 => ?_) (fun c7 => ?_)
        · replace hf := x_ifF hf c7
          refine lv_iconst (v := 0) S.1 S.2.1 dX3_areInRange_66 (by decide) ?_
          exact x_ri E rfl x_n0 hf rfl I rfl dX3_areInRange_67
        · replace hf := x_ifT hf c7
          refine lv_iconst (v := 1) S.1 S.2.1 dX3_areInRange_62 (by decide) ?_
          refine lv_goto (tgt := 67) S.1 S.2.1 dX3_areInRange_63 (by decide) ?_
          exact x_ri E rfl x_n1 hf rfl I rfl dX3_areInRange_67
      have hl22 : ∀ (n22 : Nat), ∀ (v8 : Int32) (H : Heap) (locs : List Loc) (ls : Array Slot), (fX3_areInRange_l22 p1 p3 p2 n22) v8 = some res → xI D A s [] (xT cI cC cZ) H locs → lv_has ls 5 [(3, .int v8), (0, .int p1), (1, .int p2), (2, .int p3)] → W p l e (headSpec wsX3_areInRange rmX3_areInRange).room s m args below meth c H locs 0 0 Q (F0 m 22 ls []) := by
        intro n22
        induction n22 with
        | zero =>
          intro v8 H locs ls hf I hl
          cases (fX3_areInRange_l22_z _ _ _ _).symm.trans hf
        | succ n22 ih22 =>
          intro v8 H locs ls hf I hl
          replace hf := (fX3_areInRange_l22_e _ _ _ _ _).symm.trans hf
          refine lv_iload_n S.1 S.2.1 dX3_areInRange_22 rfl (lv_at hl 0 rfl) ?_
          refine lv_iload_n S.1 S.2.1 dX3_areInRange_23 rfl (lv_at hl 1 rfl) ?_
          refine lv_icmp_ge (tgt := 54) S.1 S.2.1 dX3_areInRange_24 (by decide) (fun c9 => ?_) (fun c9 => ?_)
          · replace hf := x_ifT hf c9
            exact hx54 _ _ _ hf I (lv_sub hl [1, 3] rfl)
          · replace hf := x_ifF hf c9
            refine lv_iload_n S.1 S.2.1 dX3_areInRange_27 rfl (lv_at hl 3 rfl) ?_
            refine lv_iload_n S.1 S.2.1 dX3_areInRange_28 rfl (lv_at hl 0 rfl) ?_
            obtain ⟨r11, hg10, hf⟩ := x_b1E hf
            refine x_c0 (As := [.int p3, .int v8]) (rest := []) (st' := [.int r11]) S I rfl (tX3_solving l D cI cC cZ p3 v8 r11 hg10) (va_cwS 2 S.2.2.2.2 gX3_areInRange_X3_solving rfl rfl rfl (by decide +kernel) ⟨Nat.le_of_ble_eq_true rfl, Nat.le_of_ble_eq_true rfl⟩) hl rfl (Nat.le_of_ble_eq_true rfl) ⟨Nat.zero_le _, Nat.zero_le _⟩ rfl dX3_areInRange_29 (fun H locs I => ?_)
            refine lv_istore (lv' := [(4, .int r11), (3, .int v8), (0, .int p1), (1, .int p2), (2, .int p3)]) S.1 S.2.1 dX3_areInRange_32 hl (by decide) rfl (fun ls hl => ?_)
            refine lv_iload S.1 S.2.1 dX3_areInRange_34 (lv_at hl 0 rfl) ?_
            refine lv_if_eq (tgt := 46) S.1 S.2.1 dX3_areInRange_36 (by decide) (fun c12 => ?_) (fun c12 => ?_)
            · replace hf := x_ifT hf c12
              refine lv_iconst (v := 0) S.1 S.2.1 dX3_areInRange_46 (by decide) ?_
              exact x_ri E rfl x_n0 hf rfl I rfl dX3_areInRange_47
            · replace hf := x_ifF hf c12
              refine lv_iload S.1 S.2.1 dX3_areInRange_39 (lv_at hl 0 rfl) ?_
              refine lv_iload_n S.1 S.2.1 dX3_areInRange_41 rfl (lv_at hl 3 rfl) ?_
              refine lv_iushr (v := (x_ush r11 p2)) S.1 S.2.1 dX3_areInRange_42 rfl ?_
              refine lv_if_eq (tgt := 48) S.1 S.2.1 dX3_areInRange_43 (by decide) (fun c13 => ?_) (fun c13 => ?_)
              · replace hf := x_ifT hf c13
                refine lv_iinc (v := (v8 + 1)) (lv' := [(3, .int (v8 + 1)), (4, .int r11), (0, .int p1), (1, .int p2), (2, .int p3)]) S.1 S.2.1 dX3_areInRange_48 hl (k := 1) rfl rfl (by decide) rfl (fun ls hl => ?_)
                refine lv_goto (tgt := 22) S.1 S.2.1 dX3_areInRange_51 (by decide) ?_
                exact ih22 (v8 + 1) _ _ _ hf I (lv_sub hl [0, 2, 3, 4] rfl)
              · replace hf := x_ifF hf c13
                refine lv_iconst (v := 0) S.1 S.2.1 dX3_areInRange_46 (by decide) ?_
                exact x_ri E rfl x_n0 hf rfl I rfl dX3_areInRange_47
      exact hl22 4096 0 _ _ _ hf I (lv_sub hl [0, 1, 2, 3] rfl)
    · replace hf := x_ifT hf c6
      refine lv_iconst (v := 0) S.1 S.2.1 dX3_areInRange_18 (by decide) ?_
      exact x_ri E rfl x_n0 hf rfl I rfl dX3_areInRange_19
set_option maxHeartbeats 4000000 in
set_option maxRecDepth 100000 in
theorem tX3_hasNumber (l : Launch) (D : va_G) (cI cC cZ : ClassId) (h : Nat) (a : Nat → Nat) (F : xF) (G : xG) (p1 : Int32) (res : Int32) (hf : fX3_hasNumber F p1 = some res) : xC l yX3_hasNumber wsX3_hasNumber rmX3_hasNumber D [.ref h, .int p1] (wX3 cI cC cZ h a F G) (fun _ => (wX3 cI cC cZ h a F G)) (xT cI cC cZ) (fun t => some (.int t)) res := by
  have kX3 : ∀ w ∈ u_ws RX3 TX3 7, w ∈ wsX3_hasNumber := by decide +kernel
  refine x_of (cc := cX3_hasNumber) (maxL := 2) (ret := (some .boolean)) (by decide) rfl (Nat.le_of_ble_eq_true rfl) ?_
  intro p e s m args below meth c A Q ls S I E hl
  replace hl : lv_has ls 2 [(0, .ref h), (1, .int p1)] := hl
  replace hf := (fX3_hasNumber_e _ _).symm.trans hf
  refine lv_iload_n S.1 S.2.1 dX3_hasNumber_0 rfl (lv_at hl 1 rfl) ?_
  refine lv_aload_n S.1 S.2.1 dX3_hasNumber_1 rfl (lv_at hl 0 rfl) ?_
  refine x_get (C := RX3) (T := TX3) (N := 7) (ci := 2) (v := .int (F 6)) S kX3 rfl I 0 6 rfl (by decide) (by decide +kernel) rfl dX3_hasNumber_2 ?_
  obtain ⟨r2, hg1, hf⟩ := x_b1E hf
  refine x_c0N (host := "ReversalCourt") (n := 2) (As := [.int p1, .int (F 6)]) (rest := []) (st' := [.int r2]) S I rfl (tX5_isBelow l D cI cC cZ p1 (F 6) r2 hg1) gX3_hasNumber_X5_isBelow_n42 rfl rfl rfl (by decide +kernel) (by decide +kernel) (by decide +kernel) (by decide +kernel) ⟨Nat.le_of_ble_eq_true rfl, Nat.le_of_ble_eq_true rfl⟩ hl rfl (Nat.le_of_ble_eq_true rfl) ⟨Nat.zero_le _, Nat.zero_le _⟩ rfl dX3_hasNumber_5 (fun H locs I => ?_)
  exact x_ri E rfl rfl hf rfl I rfl dX3_hasNumber_8
set_option maxHeartbeats 4000000 in
set_option maxRecDepth 100000 in
theorem tX3_hasBoth (l : Launch) (D : va_G) (cI cC cZ : ClassId) (h : Nat) (a : Nat → Nat) (F : xF) (G : xG) (p1 p2 : Int32) (res : Int32) (hf : fX3_hasBoth F p1 p2 = some res) : xC l yX3_hasBoth wsX3_hasBoth rmX3_hasBoth D [.ref h, .int p1, .int p2] (wX3 cI cC cZ h a F G) (fun _ => (wX3 cI cC cZ h a F G)) (xT cI cC cZ) (fun t => some (.int t)) res := by
  refine x_of (cc := cX3_hasBoth) (maxL := 3) (ret := (some .boolean)) (by decide) rfl (Nat.le_of_ble_eq_true rfl) ?_
  intro p e s m args below meth c A Q ls S I E hl
  replace hl : lv_has ls 3 [(0, .ref h), (1, .int p1), (2, .int p2)] := hl
  replace hf := (fX3_hasBoth_e _ _ _).symm.trans hf
  refine lv_aload_n S.1 S.2.1 dX3_hasBoth_0 rfl (lv_at hl 0 rfl) ?_
  refine lv_iload_n S.1 S.2.1 dX3_hasBoth_1 rfl (lv_at hl 1 rfl) ?_
  obtain ⟨r2, hg1, hf⟩ := x_b1E hf
  refine x_cA (As := [.int p1]) (rest := []) (st' := [.int r2]) (ws' := (wX3 cI cC cZ h a F G)) S I (tX3_hasNumber l D cI cC cZ h a F G p1 r2 hg1) (cwV 1 S.2.2.2.2 gX3_hasBoth_X3_hasNumber rfl rfl rfl (by decide +kernel) ⟨Nat.le_of_ble_eq_true rfl, Nat.le_of_ble_eq_true rfl⟩) 0 2 rfl rfl rfl rfl hl rfl (Nat.le_of_ble_eq_true rfl) ⟨Nat.zero_le _, Nat.zero_le _⟩ rfl dX3_hasBoth_2 (fun H locs I => ?_)
  refine lv_if_eq (tgt := 20) S.1 S.2.1 dX3_hasBoth_5 (by decide) (fun c3 => ?_) (fun c3 => ?_)
  · replace hf := x_ifT hf c3
    refine lv_iconst (v := 0) S.1 S.2.1 dX3_hasBoth_20 (by decide) ?_
    exact x_ri E rfl x_n0 hf rfl I rfl dX3_hasBoth_21
  · replace hf := x_ifF hf c3
    refine lv_aload_n S.1 S.2.1 dX3_hasBoth_8 rfl (lv_at hl 0 rfl) ?_
    refine lv_iload_n S.1 S.2.1 dX3_hasBoth_9 rfl (lv_at hl 2 rfl) ?_
    obtain ⟨r5, hg4, hf⟩ := x_b1E hf
    refine x_cA (As := [.int p2]) (rest := []) (st' := [.int r5]) (ws' := (wX3 cI cC cZ h a F G)) S I (tX3_hasNumber l D cI cC cZ h a F G p2 r5 hg4) (cwV 1 S.2.2.2.2 gX3_hasBoth_X3_hasNumber rfl rfl rfl (by decide +kernel) ⟨Nat.le_of_ble_eq_true rfl, Nat.le_of_ble_eq_true rfl⟩) 0 2 rfl rfl rfl rfl hl rfl (Nat.le_of_ble_eq_true rfl) ⟨Nat.zero_le _, Nat.zero_le _⟩ rfl dX3_hasBoth_10 (fun H locs I => ?_)
    refine lv_if_eq (tgt := 20) S.1 S.2.1 dX3_hasBoth_13 (by decide) (fun c6 => ?_) (fun c6 => ?_)
    · replace hf := x_ifT hf c6
      refine lv_iconst (v := 0) S.1 S.2.1 dX3_hasBoth_20 (by decide) ?_
      exact x_ri E rfl x_n0 hf rfl I rfl dX3_hasBoth_21
    · replace hf := x_ifF hf c6
      refine lv_iconst (v := 1) S.1 S.2.1 dX3_hasBoth_16 (by decide) ?_
      refine lv_goto (tgt := 21) S.1 S.2.1 dX3_hasBoth_17 (by decide) ?_
      exact x_ri E rfl x_n1 hf rfl I rfl dX3_hasBoth_21
set_option maxHeartbeats 4000000 in
set_option maxRecDepth 100000 in
theorem tX3_hasInstance (l : Launch) (D : va_G) (cI cC cZ : ClassId) (h : Nat) (a : Nat → Nat) (F : xF) (G : xG) (p1 p2 : Int32) (res : Int32) (hf : fX3_hasInstance G p1 p2 = some res) : xC l yX3_hasInstance wsX3_hasInstance rmX3_hasInstance D [.ref h, .int p1, .int p2] (wX3 cI cC cZ h a F G) (fun _ => (wX3 cI cC cZ h a F G)) (xT cI cC cZ) (fun t => some (.int t)) res := by
  have kX3 : ∀ w ∈ u_ws RX3 TX3 7, w ∈ wsX3_hasInstance := by decide +kernel
  refine x_of (cc := cX3_hasInstance) (maxL := 3) (ret := (some .boolean)) (by decide) rfl (Nat.le_of_ble_eq_true rfl) ?_
  intro p e s m args below meth c A Q ls S I E hl
  replace hl : lv_has ls 3 [(0, .ref h), (1, .int p1), (2, .int p2)] := hl
  replace hf := (fX3_hasInstance_e _ _ _).symm.trans hf
  refine lv_iload_n S.1 S.2.1 dX3_hasInstance_0 rfl (lv_at hl 2 rfl) ?_
  refine lv_aload_n S.1 S.2.1 dX3_hasInstance_1 rfl (lv_at hl 0 rfl) ?_
  refine x_get (C := RX3) (T := TX3) (N := 7) (ci := 2) (v := .ref (a 0)) S kX3 rfl I 0 0 rfl (by decide) (by decide +kernel) rfl dX3_hasInstance_2 ?_
  refine lv_iload_n S.1 S.2.1 dX3_hasInstance_5 rfl (lv_at hl 1 rfl) ?_
  obtain ⟨hi1, hf⟩ := x_ldE hf
  refine x_iald (f := (G 0)) S I 1 0 rfl rfl hi1 dX3_hasInstance_6 ?_
  obtain ⟨r3, hg2, hf⟩ := x_b1E hf
  refine x_c0N (host := "ReversalCourt") (n := 2) (As := [.int p2, .int ((G 0) p1.toNatClampNeg)]) (rest := []) (st' := [.int r3]) S I rfl (tX5_isBelow l D cI cC cZ p2 ((G 0) p1.toNatClampNeg) r3 hg2) gX3_hasInstance_X5_isBelow_n42 rfl rfl rfl (by decide +kernel) (by decide +kernel) (by decide +kernel) (by decide +kernel) ⟨Nat.le_of_ble_eq_true rfl, Nat.le_of_ble_eq_true rfl⟩ hl rfl (Nat.le_of_ble_eq_true rfl) ⟨Nat.zero_le _, Nat.zero_le _⟩ rfl dX3_hasInstance_7 (fun H locs I => ?_)
  exact x_ri E rfl rfl hf rfl I rfl dX3_hasInstance_10
set_option maxHeartbeats 4000000 in
set_option maxRecDepth 100000 in
theorem tX3_hasAll (l : Launch) (D : va_G) (cI cC cZ : ClassId) (h : Nat) (a : Nat → Nat) (F : xF) (G : xG) (res : Int32) (hf : fX3_hasAll F = some res) : xC l yX3_hasAll wsX3_hasAll rmX3_hasAll D [.ref h] (wX3 cI cC cZ h a F G) (fun _ => (wX3 cI cC cZ h a F G)) (xT cI cC cZ) (fun t => some (.int t)) res := by
  have kX3 : ∀ w ∈ u_ws RX3 TX3 7, w ∈ wsX3_hasAll := by decide +kernel
  refine x_of (cc := cX3_hasAll) (maxL := 1) (ret := (some .boolean)) (by decide) rfl (Nat.le_of_ble_eq_true rfl) ?_
  intro p e s m args below meth c A Q ls S I E hl
  replace hl : lv_has ls 1 [(0, .ref h)] := hl
  replace hf := (fX3_hasAll_e _).symm.trans hf
  refine lv_aload_n S.1 S.2.1 dX3_hasAll_0 rfl (lv_at hl 0 rfl) ?_
  refine x_get (C := RX3) (T := TX3) (N := 7) (ci := 2) (v := .int (F 6)) S kX3 rfl I 0 6 rfl (by decide) (by decide +kernel) rfl dX3_hasAll_1 ?_
  refine lv_bipush (v := 6) S.1 S.2.1 dX3_hasAll_4 (by decide) ?_
  refine lv_icmp_lt (tgt := 13) S.1 S.2.1 dX3_hasAll_6 (by decide) (fun c1 => ?_) (fun c1 => ?_)
  · replace hf := x_ifT hf c1
    refine lv_iconst (v := 0) S.1 S.2.1 dX3_hasAll_13 (by decide) ?_
    exact x_ri E rfl x_n0 hf rfl I rfl dX3_hasAll_14
  · replace hf := x_ifF hf c1
    refine lv_iconst (v := 1) S.1 S.2.1 dX3_hasAll_9 (by decide) ?_
    refine lv_goto (tgt := 14) S.1 S.2.1 dX3_hasAll_10 (by decide) ?_
    exact x_ri E rfl x_n1 hf rfl I rfl dX3_hasAll_14
set_option maxHeartbeats 4000000 in
set_option maxRecDepth 100000 in
theorem tX3_add (l : Launch) (D : va_G) (cI cC cZ : ClassId) (h : Nat) (a : Nat → Nat) (F : xF) (G : xG) (p1 p2 p3 : Int32) (res : Int32 × xF × xG) (hf : fX3_add F G p1 p2 p3 = some res) : xC l yX3_add wsX3_add rmX3_add D [.ref h, .int p1, .int p2, .int p3] (wX3 cI cC cZ h a F G) (fun t => (wX3 cI cC cZ h a t.2.1 t.2.2)) (xT cI cC cZ) (fun t => some (.int t.1)) res := by
  have kX3 : ∀ w ∈ u_ws RX3 TX3 7, w ∈ wsX3_add := by decide +kernel
  refine x_of (cc := cX3_add) (maxL := 5) (ret := (some .int)) (by decide) rfl (Nat.le_of_ble_eq_true rfl) ?_
  intro p e s m args below meth c A Q ls S I E hl
  replace hl : lv_has ls 5 [(0, .ref h), (1, .int p1), (2, .int p2), (3, .int p3)] := hl
  replace hf := (fX3_add_e _ _ _ _ _).symm.trans hf
  refine lv_aload_n S.1 S.2.1 dX3_add_0 rfl (lv_at hl 0 rfl) ?_
  refine x_get (C := RX3) (T := TX3) (N := 7) (ci := 2) (v := .int (F 6)) S kX3 rfl I 0 6 rfl (by decide) (by decide +kernel) rfl dX3_add_1 ?_
  refine lv_istore (lv' := [(4, .int (F 6)), (0, .ref h), (1, .int p1), (2, .int p2), (3, .int p3)]) S.1 S.2.1 dX3_add_4 hl (by decide) rfl (fun ls hl => ?_)
  refine lv_aload_n S.1 S.2.1 dX3_add_6 rfl (lv_at hl 1 rfl) ?_
  refine x_get (C := RX3) (T := TX3) (N := 7) (ci := 2) (v := .ref (a 0)) S kX3 rfl I 0 0 rfl (by decide) (by decide +kernel) rfl dX3_add_7 ?_
  refine lv_iload S.1 S.2.1 dX3_add_10 (lv_at hl 0 rfl) ?_
  refine lv_iload_n S.1 S.2.1 dX3_add_12 rfl (lv_at hl 2 rfl) ?_
  obtain ⟨hi1, hf⟩ := x_ldE hf
  refine x_iast (f := (G 0)) (ws' := (wX3 cI cC cZ h a F (va_up G 0 (upd (G 0) (F 6).toNatClampNeg p1)))) S I 1 0 rfl rfl hi1 rfl dX3_add_13 (fun H locs I => ?_)
  refine lv_aload_n S.1 S.2.1 dX3_add_14 rfl (lv_at hl 1 rfl) ?_
  refine x_get (C := RX3) (T := TX3) (N := 7) (ci := 2) (v := .ref (a 1)) S kX3 rfl I 0 1 rfl (by decide) (by decide +kernel) rfl dX3_add_15 ?_
  refine lv_iload S.1 S.2.1 dX3_add_18 (lv_at hl 0 rfl) ?_
  refine lv_iload_n S.1 S.2.1 dX3_add_20 rfl (lv_at hl 3 rfl) ?_
  obtain ⟨hi2, hf⟩ := x_ldE hf
  refine x_iast (f := (G 1)) (ws' := (wX3 cI cC cZ h a F (va_up (va_up G 0 (upd (G 0) (F 6).toNatClampNeg p1)) 1 (upd (G 1) (F 6).toNatClampNeg p2)))) S I 2 0 rfl rfl hi2 rfl dX3_add_21 (fun H locs I => ?_)
  refine lv_aload_n S.1 S.2.1 dX3_add_22 rfl (lv_at hl 1 rfl) ?_
  refine x_get (C := RX3) (T := TX3) (N := 7) (ci := 2) (v := .ref (a 2)) S kX3 rfl I 0 2 rfl (by decide) (by decide +kernel) rfl dX3_add_23 ?_
  refine lv_iload S.1 S.2.1 dX3_add_26 (lv_at hl 0 rfl) ?_
  refine lv_iload_n S.1 S.2.1 dX3_add_28 rfl (lv_at hl 4 rfl) ?_
  obtain ⟨hi3, hf⟩ := x_ldE hf
  refine x_iast (f := (G 2)) (ws' := (wX3 cI cC cZ h a F (va_up (va_up (va_up G 0 (upd (G 0) (F 6).toNatClampNeg p1)) 1 (upd (G 1) (F 6).toNatClampNeg p2)) 2 (upd (G 2) (F 6).toNatClampNeg p3)))) S I 3 0 rfl rfl hi3 rfl dX3_add_29 (fun H locs I => ?_)
  refine lv_aload_n S.1 S.2.1 dX3_add_30 rfl (lv_at hl 1 rfl) ?_
  refine lv_dup S.1 S.2.1 dX3_add_31 rfl ?_
  refine x_get (C := RX3) (T := TX3) (N := 7) (ci := 2) (v := .int (F 6)) S kX3 rfl I 0 6 rfl (by decide) (by decide +kernel) rfl dX3_add_32 ?_
  refine lv_iconst (v := 1) S.1 S.2.1 dX3_add_35 (by decide) ?_
  refine lv_iadd S.1 S.2.1 dX3_add_36 ?_
  refine x_put (C := RX3) (T := TX3) (N := 7) (ci := 2) (ws' := (wX3 cI cC cZ h a (va_up F 6 ((F 6) + 1)) (va_up (va_up (va_up G 0 (upd (G 0) (F 6).toNatClampNeg p1)) 1 (upd (G 1) (F 6).toNatClampNeg p2)) 2 (upd (G 2) (F 6).toNatClampNeg p3)))) S kX3 tyX3 tyX3_ok nmX3 rfl I 0 6 rfl (by decide) (by decide +kernel) rfl rfl (Nat.le_of_ble_eq_true rfl) rfl dX3_add_37 (fun H locs I => ?_)
  refine lv_iload S.1 S.2.1 dX3_add_40 (lv_at hl 0 rfl) ?_
  exact x_ri E rfl rfl hf rfl I rfl dX3_add_42
set_option maxHeartbeats 4000000 in
set_option maxRecDepth 100000 in
theorem tX3_canMultiply (l : Launch) (D : va_G) (cI cC cZ : ClassId) (h : Nat) (a : Nat → Nat) (F : xF) (G : xG) (p1 p2 : Int32) (res : Int32) (hf : fX3_canMultiply G p1 p2 = some res) : xC l yX3_canMultiply wsX3_canMultiply rmX3_canMultiply D [.ref h, .int p1, .int p2] (wX3 cI cC cZ h a F G) (fun _ => (wX3 cI cC cZ h a F G)) (xT cI cC cZ) (fun t => some (.int t)) res := by
  have kX3 : ∀ w ∈ u_ws RX3 TX3 7, w ∈ wsX3_canMultiply := by decide +kernel
  refine x_of (cc := cX3_canMultiply) (maxL := 3) (ret := (some .boolean)) (by decide) rfl (Nat.le_of_ble_eq_true rfl) ?_
  intro p e s m args below meth c A Q ls S I E hl
  replace hl : lv_has ls 3 [(0, .ref h), (1, .int p1), (2, .int p2)] := hl
  replace hf := (fX3_canMultiply_e _ _ _).symm.trans hf
  refine lv_aload_n S.1 S.2.1 dX3_canMultiply_0 rfl (lv_at hl 0 rfl) ?_
  refine x_get (C := RX3) (T := TX3) (N := 7) (ci := 2) (v := .ref (a 0)) S kX3 rfl I 0 0 rfl (by decide) (by decide +kernel) rfl dX3_canMultiply_1 ?_
  refine lv_iload_n S.1 S.2.1 dX3_canMultiply_4 rfl (lv_at hl 1 rfl) ?_
  obtain ⟨hi1, hf⟩ := x_ldE hf
  refine x_iald (f := (G 0)) S I 1 0 rfl rfl hi1 dX3_canMultiply_5 ?_
  refine lv_aload_n S.1 S.2.1 dX3_canMultiply_6 rfl (lv_at hl 0 rfl) ?_
  refine x_get (C := RX3) (T := TX3) (N := 7) (ci := 2) (v := .ref (a 0)) S kX3 rfl I 0 0 rfl (by decide) (by decide +kernel) rfl dX3_canMultiply_7 ?_
  refine lv_iload_n S.1 S.2.1 dX3_canMultiply_10 rfl (lv_at hl 2 rfl) ?_
  obtain ⟨hi2, hf⟩ := x_ldE hf
  refine x_iald (f := (G 0)) S I 1 0 rfl rfl hi2 dX3_canMultiply_11 ?_
  refine lv_imul S.1 S.2.1 dX3_canMultiply_12 ?_
  refine lv_iconst (v := 4) S.1 S.2.1 dX3_canMultiply_13 (by decide) ?_
  refine lv_icmp_gt (tgt := 38) S.1 S.2.1 dX3_canMultiply_14 (by decide) (fun c3 => ?_) (fun c3 => ?_)
  · replace hf := x_ifT hf c3
    refine lv_iconst (v := 0) S.1 S.2.1 dX3_canMultiply_38 (by decide) ?_
    exact x_ri E rfl x_n0 hf rfl I rfl dX3_canMultiply_39
  · replace hf := x_ifF hf c3
    refine lv_aload_n S.1 S.2.1 dX3_canMultiply_17 rfl (lv_at hl 0 rfl) ?_
    refine x_get (C := RX3) (T := TX3) (N := 7) (ci := 2) (v := .ref (a 1)) S kX3 rfl I 0 1 rfl (by decide) (by decide +kernel) rfl dX3_canMultiply_18 ?_
    refine lv_iload_n S.1 S.2.1 dX3_canMultiply_21 rfl (lv_at hl 1 rfl) ?_
    obtain ⟨hi4, hf⟩ := x_ldE hf
    refine x_iald (f := (G 1)) S I 2 0 rfl rfl hi4 dX3_canMultiply_22 ?_
    refine lv_aload_n S.1 S.2.1 dX3_canMultiply_23 rfl (lv_at hl 0 rfl) ?_
    refine x_get (C := RX3) (T := TX3) (N := 7) (ci := 2) (v := .ref (a 1)) S kX3 rfl I 0 1 rfl (by decide) (by decide +kernel) rfl dX3_canMultiply_24 ?_
    refine lv_iload_n S.1 S.2.1 dX3_canMultiply_27 rfl (lv_at hl 2 rfl) ?_
    obtain ⟨hi5, hf⟩ := x_ldE hf
    refine x_iald (f := (G 1)) S I 2 0 rfl rfl hi5 dX3_canMultiply_28 ?_
    refine lv_imul S.1 S.2.1 dX3_canMultiply_29 ?_
    refine lv_iconst (v := 4) S.1 S.2.1 dX3_canMultiply_30 (by decide) ?_
    refine lv_icmp_gt (tgt := 38) S.1 S.2.1 dX3_canMultiply_31 (by decide) (fun c6 => ?_) (fun c6 => ?_)
    · replace hf := x_ifT hf c6
      refine lv_iconst (v := 0) S.1 S.2.1 dX3_canMultiply_38 (by decide) ?_
      exact x_ri E rfl x_n0 hf rfl I rfl dX3_canMultiply_39
    · replace hf := x_ifF hf c6
      refine lv_iconst (v := 1) S.1 S.2.1 dX3_canMultiply_34 (by decide) ?_
      refine lv_goto (tgt := 39) S.1 S.2.1 dX3_canMultiply_35 (by decide) ?_
      exact x_ri E rfl x_n1 hf rfl I rfl dX3_canMultiply_39
set_option maxHeartbeats 4000000 in
set_option maxRecDepth 100000 in
theorem tX3_solvingBoth (l : Launch) (D : va_G) (cI cC cZ : ClassId) (p1 p2 p3 : Int32) (res : Int32) (hf : fX3_solvingBoth p1 p2 p3 = some res) : xC l yX3_solvingBoth wsX3_solvingBoth rmX3_solvingBoth D [.int p1, .int p2, .int p3] [] (fun _ => []) (xT cI cC cZ) (fun t => some (.int t)) res := by
  refine x_of (cc := cX3_solvingBoth) (maxL := 5) (ret := (some .int)) (by decide) rfl (Nat.le_of_ble_eq_true rfl) ?_
  intro p e s m args below meth c A Q ls S I E hl
  replace hl : lv_has ls 5 [(0, .int p1), (1, .int p2), (2, .int p3)] := hl
  replace hf := (fX3_solvingBoth_e _ _ _).symm.trans hf
  refine lv_iconst (v := 0) S.1 S.2.1 dX3_solvingBoth_0 (by decide) ?_
  refine lv_istore_n (lv' := [(3, .int 0), (0, .int p1), (1, .int p2), (2, .int p3)]) S.1 S.2.1 dX3_solvingBoth_1 rfl hl (by decide) rfl (fun ls hl => ?_)
  refine lv_iconst (v := 0) S.1 S.2.1 dX3_solvingBoth_2 (by decide) ?_
  refine lv_istore (lv' := [(4, .int 0), (3, .int 0), (0, .int p1), (1, .int p2), (2, .int p3)]) S.1 S.2.1 dX3_solvingBoth_3 hl (by decide) rfl (fun ls hl => ?_)
  have hl5 : ∀ (n5 : Nat), ∀ (v1 : Int32) (v2 : Int32) (H : Heap) (locs : List Loc) (ls : Array Slot), (fX3_solvingBoth_l5 p1 p2 p3 n5) v1 v2 = some res → xI D A s [] (xT cI cC cZ) H locs → lv_has ls 5 [(4, .int v2), (3, .int v1), (0, .int p1), (1, .int p2), (2, .int p3)] → W p l e (headSpec wsX3_solvingBoth rmX3_solvingBoth).room s m args below meth c H locs 0 0 Q (F0 m 5 ls []) := by
    intro n5
    induction n5 with
    | zero =>
      intro v1 v2 H locs ls hf I hl
      cases (fX3_solvingBoth_l5_z _ _ _ _ _).symm.trans hf
    | succ n5 ih5 =>
      intro v1 v2 H locs ls hf I hl
      replace hf := (fX3_solvingBoth_l5_e _ _ _ _ _ _).symm.trans hf
      refine lv_iload S.1 S.2.1 dX3_solvingBoth_5 (lv_at hl 0 rfl) ?_
      refine lv_iconst (v := 4) S.1 S.2.1 dX3_solvingBoth_7 (by decide) ?_
      refine lv_icmp_ge (tgt := 35) S.1 S.2.1 dX3_solvingBoth_8 (by decide) (fun c3 => ?_) (fun c3 => ?_)
      · replace hf := x_ifT hf c3
        refine lv_iload_n S.1 S.2.1 dX3_solvingBoth_35 rfl (lv_at hl 1 rfl) ?_
        exact x_ri E rfl rfl hf rfl I rfl dX3_solvingBoth_36
      · replace hf := x_ifF hf c3
        refine lv_iload_n S.1 S.2.1 dX3_solvingBoth_11 rfl (lv_at hl 2 rfl) ?_
        refine lv_iload S.1 S.2.1 dX3_solvingBoth_12 (lv_at hl 0 rfl) ?_
        refine lv_ishr S.1 S.2.1 dX3_solvingBoth_14 ?_
        refine lv_iconst (v := 1) S.1 S.2.1 dX3_solvingBoth_15 (by decide) ?_
        refine lv_iand S.1 S.2.1 dX3_solvingBoth_16 ?_
        have hj29 : ∀ (v4 : Int32) (H : Heap) (locs : List Loc) (ls : Array Slot), (fX3_solvingBoth_j29 (fX3_solvingBoth_l5 p1 p2 p3 n5) v2) v4 = some res → xI D A s [] (xT cI cC cZ) H locs → lv_has ls 5 [(4, .int v2), (3, .int v4), (0, .int p1), (1, .int p2), (2, .int p3)] → W p l e (headSpec wsX3_solvingBoth rmX3_solvingBoth).room s m args below meth c H locs 0 0 Q (F0 m 29 ls []) := by
          intro v4 H locs ls hf I hl
          replace hf := (fX3_solvingBoth_j29_e _ _ _).symm.trans hf
          refine lv_iinc (v := (v2 + 1)) (lv' := [(4, .int (v2 + 1)), (3, .int v4), (0, .int p1), (1, .int p2), (2, .int p3)]) S.1 S.2.1 dX3_solvingBoth_29 hl (k := 0) rfl rfl (by decide) rfl (fun ls hl => ?_)
          refine lv_goto (tgt := 5) S.1 S.2.1 dX3_solvingBoth_32 (by decide) ?_
          exact ih5 v4 (v2 + 1) _ _ _ hf I (lv_sub hl [0, 1, 2, 3, 4] rfl)
        refine lv_if_eq (tgt := 29) S.1 S.2.1 dX3_solvingBoth_17 (by decide) (fun c5 => ?_) (fun c5 => ?_)
        · replace hf := x_ifT hf c5
          exact hj29 v1 _ _ _ hf I (lv_sub hl [0, 1, 2, 3, 4] rfl)
        · replace hf := x_ifF hf c5
          refine lv_iload_n S.1 S.2.1 dX3_solvingBoth_20 rfl (lv_at hl 1 rfl) ?_
          refine lv_iload_n S.1 S.2.1 dX3_solvingBoth_21 rfl (lv_at hl 3 rfl) ?_
          refine lv_iload S.1 S.2.1 dX3_solvingBoth_22 (lv_at hl 0 rfl) ?_
          refine lv_iload_n S.1 S.2.1 dX3_solvingBoth_24 rfl (lv_at hl 4 rfl) ?_
          refine lv_imul S.1 S.2.1 dX3_solvingBoth_25 ?_
          refine lv_ishl S.1 S.2.1 dX3_solvingBoth_26 ?_
          refine lv_ior S.1 S.2.1 dX3_solvingBoth_27 ?_
          refine lv_istore_n (lv' := [(3, .int (v1 ||| (x_shl p2 (v2 * p3)))), (4, .int v2), (0, .int p1), (1, .int p2), (2, .int p3)]) S.1 S.2.1 dX3_solvingBoth_28 rfl hl (by decide) rfl (fun ls hl => ?_)
          exact hj29 (v1 ||| (x_shl p2 (v2 * p3))) _ _ _ hf I (lv_sub hl [1, 0, 2, 3, 4] rfl)
  exact hl5 4096 0 0 _ _ _ hf I (lv_sub hl [0, 1, 2, 3, 4] rfl)
set_option maxHeartbeats 4000000 in
set_option maxRecDepth 100000 in
theorem tX3_addProduct (l : Launch) (D : va_G) (cI cC cZ : ClassId) (h : Nat) (a : Nat → Nat) (F : xF) (G : xG) (p1 p2 : Int32) (res : Int32 × xF × xG) (hf : fX3_addProduct F G p1 p2 = some res) : xC l yX3_addProduct wsX3_addProduct rmX3_addProduct D [.ref h, .int p1, .int p2] (wX3 cI cC cZ h a F G) (fun t => (wX3 cI cC cZ h a t.2.1 t.2.2)) (xT cI cC cZ) (fun t => some (.int t.1)) res := by
  have kX3 : ∀ w ∈ u_ws RX3 TX3 7, w ∈ wsX3_addProduct := by decide +kernel
  refine x_of (cc := cX3_addProduct) (maxL := 8) (ret := (some .int)) (by decide) rfl (Nat.le_of_ble_eq_true rfl) ?_
  intro p e s m args below meth c A Q ls S I E hl
  replace hl : lv_has ls 8 [(0, .ref h), (1, .int p1), (2, .int p2)] := hl
  replace hf := (fX3_addProduct_e _ _ _ _).symm.trans hf
  refine lv_iconst (v := 0) S.1 S.2.1 dX3_addProduct_0 (by decide) ?_
  refine lv_istore_n (lv' := [(3, .int 0), (0, .ref h), (1, .int p1), (2, .int p2)]) S.1 S.2.1 dX3_addProduct_1 rfl hl (by decide) rfl (fun ls hl => ?_)
  refine lv_iconst (v := 0) S.1 S.2.1 dX3_addProduct_2 (by decide) ?_
  refine lv_istore (lv' := [(4, .int 0), (3, .int 0), (0, .ref h), (1, .int p1), (2, .int p2)]) S.1 S.2.1 dX3_addProduct_3 hl (by decide) rfl (fun ls hl => ?_)
  refine lv_iconst (v := 0) S.1 S.2.1 dX3_addProduct_5 (by decide) ?_
  refine lv_istore (lv' := [(5, .int 0), (4, .int 0), (3, .int 0), (0, .ref h), (1, .int p1), (2, .int p2)]) S.1 S.2.1 dX3_addProduct_6 hl (by decide) rfl (fun ls hl => ?_)
  have hx91 : ∀ (v1 : Int32) (v2 : Int32) (H : Heap) (locs : List Loc) (ls : Array Slot), (fX3_addProduct_x91 F G p1 p2) v1 v2 = some res → xI D A s (wX3 cI cC cZ h a F G) (xT cI cC cZ) H locs → lv_has ls 8 [(4, .int v2), (3, .int v1), (0, .ref h), (1, .int p1), (2, .int p2)] → W p l e (headSpec wsX3_addProduct rmX3_addProduct).room s m args below meth c H locs 0 0 Q (F0 m 91 ls []) := by
    intro v1 v2 H locs ls hf I hl
    replace hf := (fX3_addProduct_x91_e _ _ _ _ _ _).symm.trans hf
    refine lv_aload_n S.1 S.2.1 dX3_addProduct_91 rfl (lv_at hl 2 rfl) ?_
    refine lv_iload S.1 S.2.1 dX3_addProduct_92 (lv_at hl 0 rfl) ?_
    refine lv_aload_n S.1 S.2.1 dX3_addProduct_94 rfl (lv_at hl 2 rfl) ?_
    refine x_get (C := RX3) (T := TX3) (N := 7) (ci := 2) (v := .ref (a 1)) S kX3 rfl I 0 1 rfl (by decide) (by decide +kernel) rfl dX3_addProduct_95 ?_
    refine lv_iload_n S.1 S.2.1 dX3_addProduct_98 rfl (lv_at hl 3 rfl) ?_
    obtain ⟨hi3, hf⟩ := x_ldE hf
    refine x_iald (f := (G 1)) S I 2 0 rfl rfl hi3 dX3_addProduct_99 ?_
    refine lv_aload_n S.1 S.2.1 dX3_addProduct_100 rfl (lv_at hl 2 rfl) ?_
    refine x_get (C := RX3) (T := TX3) (N := 7) (ci := 2) (v := .ref (a 1)) S kX3 rfl I 0 1 rfl (by decide) (by decide +kernel) rfl dX3_addProduct_101 ?_
    refine lv_iload_n S.1 S.2.1 dX3_addProduct_104 rfl (lv_at hl 4 rfl) ?_
    obtain ⟨hi4, hf⟩ := x_ldE hf
    refine x_iald (f := (G 1)) S I 2 0 rfl rfl hi4 dX3_addProduct_105 ?_
    refine lv_imul S.1 S.2.1 dX3_addProduct_106 ?_
    refine lv_iload_n S.1 S.2.1 dX3_addProduct_107 rfl (lv_at hl 1 rfl) ?_
    obtain ⟨r6, F7, G8, hg5, hf⟩ := x_b3E hf
    refine x_cA (As := [.int v2, .int (((G 1) p1.toNatClampNeg) * ((G 1) p2.toNatClampNeg)), .int v1]) (rest := []) (st' := [.int r6]) (ws' := (wX3 cI cC cZ h a F7 G8)) S I (tX3_add l D cI cC cZ h a F G v2 (((G 1) p1.toNatClampNeg) * ((G 1) p2.toNatClampNeg)) v1 (r6, F7, G8) hg5) (cwV 3 S.2.2.2.2 gX3_addProduct_X3_add rfl rfl rfl (by decide +kernel) ⟨Nat.le_of_ble_eq_true rfl, Nat.le_of_ble_eq_true rfl⟩) 0 2 rfl rfl rfl rfl hl rfl (Nat.le_of_ble_eq_true rfl) ⟨Nat.zero_le _, Nat.zero_le _⟩ rfl dX3_addProduct_108 (fun H locs I => ?_)
    exact x_ri E rfl rfl hf rfl I rfl dX3_addProduct_111
  have hl8 : ∀ (n8 : Nat), ∀ (v9 : Int32) (v10 : Int32) (v11 : Int32) (H : Heap) (locs : List Loc) (ls : Array Slot), (fX3_addProduct_l8 G F p1 p2 n8) v9 v10 v11 = some res → xI D A s (wX3 cI cC cZ h a F G) (xT cI cC cZ) H locs → lv_has ls 8 [(5, .int v11), (4, .int v10), (3, .int v9), (0, .ref h), (1, .int p1), (2, .int p2)] → W p l e (headSpec wsX3_addProduct rmX3_addProduct).room s m args below meth c H locs 0 0 Q (F0 m 8 ls []) := by
    intro n8
    induction n8 with
    | zero =>
      intro v9 v10 v11 H locs ls hf I hl
      cases (fX3_addProduct_l8_z _ _ _ _ _ _ _).symm.trans hf
    | succ n8 ih8 =>
      intro v9 v10 v11 H locs ls hf I hl
      replace hf := (fX3_addProduct_l8_e _ _ _ _ _ _ _ _).symm.trans hf
      refine lv_iload S.1 S.2.1 dX3_addProduct_8 (lv_at hl 0 rfl) ?_
      refine lv_aload_n S.1 S.2.1 dX3_addProduct_10 rfl (lv_at hl 3 rfl) ?_
      refine x_get (C := RX3) (T := TX3) (N := 7) (ci := 2) (v := .ref (a 0)) S kX3 rfl I 0 0 rfl (by decide) (by decide +kernel) rfl dX3_addProduct_11 ?_
      refine lv_iload_n S.1 S.2.1 dX3_addProduct_14 rfl (lv_at hl 4 rfl) ?_
      obtain ⟨hi12, hf⟩ := x_ldE hf
      refine x_iald (f := (G 0)) S I 1 0 rfl rfl hi12 dX3_addProduct_15 ?_
      refine lv_icmp_ge (tgt := 91) S.1 S.2.1 dX3_addProduct_16 (by decide) (fun c13 => ?_) (fun c13 => ?_)
      · replace hf := x_ifT hf c13
        exact hx91 v9 v10 _ _ _ hf I (lv_sub hl [1, 2, 3, 4, 5] rfl)
      · replace hf := x_ifF hf c13
        refine lv_iconst (v := 0) S.1 S.2.1 dX3_addProduct_19 (by decide) ?_
        refine lv_istore (lv' := [(6, .int 0), (5, .int v11), (4, .int v10), (3, .int v9), (0, .ref h), (1, .int p1), (2, .int p2)]) S.1 S.2.1 dX3_addProduct_20 hl (by decide) rfl (fun ls hl => ?_)
        have hx85 : ∀ (v14 : Int32) (v15 : Int32) (H : Heap) (locs : List Loc) (ls : Array Slot), (fX3_addProduct_x85 (fX3_addProduct_l8 G F p1 p2 n8) v11) v14 v15 = some res → xI D A s (wX3 cI cC cZ h a F G) (xT cI cC cZ) H locs → lv_has ls 8 [(5, .int v11), (4, .int v15), (3, .int v14), (0, .ref h), (1, .int p1), (2, .int p2)] → W p l e (headSpec wsX3_addProduct rmX3_addProduct).room s m args below meth c H locs 0 0 Q (F0 m 85 ls []) := by
          intro v14 v15 H locs ls hf I hl
          replace hf := (fX3_addProduct_x85_e _ _ _ _).symm.trans hf
          refine lv_iinc (v := (v11 + 1)) (lv' := [(5, .int (v11 + 1)), (4, .int v15), (3, .int v14), (0, .ref h), (1, .int p1), (2, .int p2)]) S.1 S.2.1 dX3_addProduct_85 hl (k := 0) rfl rfl (by decide) rfl (fun ls hl => ?_)
          refine lv_goto (tgt := 8) S.1 S.2.1 dX3_addProduct_88 (by decide) ?_
          exact ih8 v14 v15 (v11 + 1) _ _ _ hf I (lv_sub hl [0, 1, 2, 3, 4, 5] rfl)
        have hl22 : ∀ (n22 : Nat), ∀ (v16 : Int32) (v17 : Int32) (v18 : Int32) (H : Heap) (locs : List Loc) (ls : Array Slot), (fX3_addProduct_l22 (fX3_addProduct_l8 G F p1 p2 n8) G p2 v11 p1 n22) v16 v17 v18 = some res → xI D A s (wX3 cI cC cZ h a F G) (xT cI cC cZ) H locs → lv_has ls 8 [(6, .int v18), (5, .int v11), (4, .int v17), (3, .int v16), (0, .ref h), (1, .int p1), (2, .int p2)] → W p l e (headSpec wsX3_addProduct rmX3_addProduct).room s m args below meth c H locs 0 0 Q (F0 m 22 ls []) := by
          intro n22
          induction n22 with
          | zero =>
            intro v16 v17 v18 H locs ls hf I hl
            cases (fX3_addProduct_l22_z _ _ _ _ _ _ _ _).symm.trans hf
          | succ n22 ih22 =>
            intro v16 v17 v18 H locs ls hf I hl
            replace hf := (fX3_addProduct_l22_e _ _ _ _ _ _ _ _ _).symm.trans hf
            refine lv_iload S.1 S.2.1 dX3_addProduct_22 (lv_at hl 0 rfl) ?_
            refine lv_aload_n S.1 S.2.1 dX3_addProduct_24 rfl (lv_at hl 4 rfl) ?_
            refine x_get (C := RX3) (T := TX3) (N := 7) (ci := 2) (v := .ref (a 0)) S kX3 rfl I 0 0 rfl (by decide) (by decide +kernel) rfl dX3_addProduct_25 ?_
            refine lv_iload_n S.1 S.2.1 dX3_addProduct_28 rfl (lv_at hl 6 rfl) ?_
            obtain ⟨hi19, hf⟩ := x_ldE hf
            refine x_iald (f := (G 0)) S I 1 0 rfl rfl hi19 dX3_addProduct_29 ?_
            refine lv_icmp_ge (tgt := 85) S.1 S.2.1 dX3_addProduct_30 (by decide) (fun c20 => ?_) (fun c20 => ?_)
            · replace hf := x_ifT hf c20
              exact hx85 v16 v17 _ _ _ hf I (lv_sub hl [1, 2, 3, 4, 5, 6] rfl)
            · replace hf := x_ifF hf c20
              refine lv_aload_n S.1 S.2.1 dX3_addProduct_33 rfl (lv_at hl 4 rfl) ?_
              refine x_get (C := RX3) (T := TX3) (N := 7) (ci := 2) (v := .ref (a 2)) S kX3 rfl I 0 2 rfl (by decide) (by decide +kernel) rfl dX3_addProduct_34 ?_
              refine lv_iload_n S.1 S.2.1 dX3_addProduct_37 rfl (lv_at hl 5 rfl) ?_
              obtain ⟨hi21, hf⟩ := x_ldE hf
              refine x_iald (f := (G 2)) S I 3 0 rfl rfl hi21 dX3_addProduct_38 ?_
              refine lv_iload S.1 S.2.1 dX3_addProduct_39 (lv_at hl 1 rfl) ?_
              obtain ⟨r23, hg22, hf⟩ := x_b1E hf
              refine x_c0 (As := [.int ((G 2) p1.toNatClampNeg), .int v11]) (rest := []) (st' := [.int r23]) S I rfl (tX3_solving l D cI cC cZ ((G 2) p1.toNatClampNeg) v11 r23 hg22) (va_cwS 2 S.2.2.2.2 gX3_addProduct_X3_solving rfl rfl rfl (by decide +kernel) ⟨Nat.le_of_ble_eq_true rfl, Nat.le_of_ble_eq_true rfl⟩) hl rfl (Nat.le_of_ble_eq_true rfl) ⟨Nat.zero_le _, Nat.zero_le _⟩ rfl dX3_addProduct_41 (fun H locs I => ?_)
              refine lv_aload_n S.1 S.2.1 dX3_addProduct_44 rfl (lv_at hl 4 rfl) ?_
              refine x_get (C := RX3) (T := TX3) (N := 7) (ci := 2) (v := .ref (a 2)) S kX3 rfl I 0 2 rfl (by decide) (by decide +kernel) rfl dX3_addProduct_45 ?_
              refine lv_iload_n S.1 S.2.1 dX3_addProduct_48 rfl (lv_at hl 6 rfl) ?_
              obtain ⟨hi24, hf⟩ := x_ldE hf
              refine x_iald (f := (G 2)) S I 3 0 rfl rfl hi24 dX3_addProduct_49 ?_
              refine lv_iload S.1 S.2.1 dX3_addProduct_50 (lv_at hl 0 rfl) ?_
              obtain ⟨r26, hg25, hf⟩ := x_b1E hf
              refine x_c0 (As := [.int ((G 2) p2.toNatClampNeg), .int v18]) (rest := [.int r23]) (st' := [.int r26, .int r23]) S I rfl (tX3_solving l D cI cC cZ ((G 2) p2.toNatClampNeg) v18 r26 hg25) (va_cwS 2 S.2.2.2.2 gX3_addProduct_X3_solving rfl rfl rfl (by decide +kernel) ⟨Nat.le_of_ble_eq_true rfl, Nat.le_of_ble_eq_true rfl⟩) hl rfl (Nat.le_of_ble_eq_true rfl) ⟨Nat.zero_le _, Nat.zero_le _⟩ rfl dX3_addProduct_52 (fun H locs I => ?_)
              refine lv_aload_n S.1 S.2.1 dX3_addProduct_55 rfl (lv_at hl 4 rfl) ?_
              refine x_get (C := RX3) (T := TX3) (N := 7) (ci := 2) (v := .ref (a 1)) S kX3 rfl I 0 1 rfl (by decide) (by decide +kernel) rfl dX3_addProduct_56 ?_
              refine lv_iload_n S.1 S.2.1 dX3_addProduct_59 rfl (lv_at hl 6 rfl) ?_
              obtain ⟨hi27, hf⟩ := x_ldE hf
              refine x_iald (f := (G 1)) S I 2 0 rfl rfl hi27 dX3_addProduct_60 ?_
              obtain ⟨r29, hg28, hf⟩ := x_b1E hf
              refine x_c0 (As := [.int r23, .int r26, .int ((G 1) p2.toNatClampNeg)]) (rest := []) (st' := [.int r29]) S I rfl (tX3_solvingBoth l D cI cC cZ r23 r26 ((G 1) p2.toNatClampNeg) r29 hg28) (va_cwS 3 S.2.2.2.2 gX3_addProduct_X3_solvingBoth rfl rfl rfl (by decide +kernel) ⟨Nat.le_of_ble_eq_true rfl, Nat.le_of_ble_eq_true rfl⟩) hl rfl (Nat.le_of_ble_eq_true rfl) ⟨Nat.zero_le _, Nat.zero_le _⟩ rfl dX3_addProduct_61 (fun H locs I => ?_)
              refine lv_istore (lv' := [(7, .int r29), (6, .int v18), (5, .int v11), (4, .int v17), (3, .int v16), (0, .ref h), (1, .int p1), (2, .int p2)]) S.1 S.2.1 dX3_addProduct_64 hl (by decide) rfl (fun ls hl => ?_)
              refine lv_iload_n S.1 S.2.1 dX3_addProduct_66 rfl (lv_at hl 4 rfl) ?_
              refine lv_iload S.1 S.2.1 dX3_addProduct_67 (lv_at hl 0 rfl) ?_
              refine lv_iconst (v := 4) S.1 S.2.1 dX3_addProduct_69 (by decide) ?_
              refine lv_iload S.1 S.2.1 dX3_addProduct_70 (lv_at hl 3 rfl) ?_
              refine lv_imul S.1 S.2.1 dX3_addProduct_72 ?_
              refine lv_ishl S.1 S.2.1 dX3_addProduct_73 ?_
              refine lv_ior S.1 S.2.1 dX3_addProduct_74 ?_
              refine lv_istore_n (lv' := [(3, .int (v16 ||| (x_shl r29 (4 * v17)))), (7, .int r29), (6, .int v18), (5, .int v11), (4, .int v17), (0, .ref h), (1, .int p1), (2, .int p2)]) S.1 S.2.1 dX3_addProduct_75 rfl hl (by decide) rfl (fun ls hl => ?_)
              refine lv_iinc (v := (v17 + 1)) (lv' := [(4, .int (v17 + 1)), (3, .int (v16 ||| (x_shl r29 (4 * v17)))), (7, .int r29), (6, .int v18), (5, .int v11), (0, .ref h), (1, .int p1), (2, .int p2)]) S.1 S.2.1 dX3_addProduct_76 hl (k := 4) rfl rfl (by decide) rfl (fun ls hl => ?_)
              refine lv_iinc (v := (v18 + 1)) (lv' := [(6, .int (v18 + 1)), (4, .int (v17 + 1)), (3, .int (v16 ||| (x_shl r29 (4 * v17)))), (7, .int r29), (5, .int v11), (0, .ref h), (1, .int p1), (2, .int p2)]) S.1 S.2.1 dX3_addProduct_79 hl (k := 3) rfl rfl (by decide) rfl (fun ls hl => ?_)
              refine lv_goto (tgt := 22) S.1 S.2.1 dX3_addProduct_82 (by decide) ?_
              exact ih22 (v16 ||| (x_shl r29 (4 * v17))) (v17 + 1) (v18 + 1) _ _ _ hf I (lv_sub hl [0, 4, 1, 2, 5, 6, 7] rfl)
        exact hl22 4096 v9 v10 0 _ _ _ hf I (lv_sub hl [0, 1, 2, 3, 4, 5, 6] rfl)
  exact hl8 4096 0 0 0 _ _ _ hf I (lv_sub hl [0, 1, 2, 3, 4, 5] rfl)
set_option maxHeartbeats 4000000 in
set_option maxRecDepth 100000 in
theorem tX3_clear (l : Launch) (D : va_G) (cI cC cZ : ClassId) (h n : Nat) (g : Nat → Int32) (res : (Nat → Int32)) (hf : fX3_clear n g = some res) : xC l yX3_clear wsX3_clear rmX3_clear D [.ref h] [(h, .inl (cI, n, .inl g))] (fun t => [(h, .inl (cI, n, .inl t))]) (xT cI cC cZ) (fun _ => none) res := by
  refine x_of (cc := cX3_clear) (maxL := 2) (ret := none) (by decide) rfl (Nat.le_of_ble_eq_true rfl) ?_
  intro p e s m args below meth c A Q ls S I E hl
  replace hl : lv_has ls 2 [(0, .ref h)] := hl
  replace hf := (fX3_clear_e _ _).symm.trans hf
  refine lv_iconst (v := 0) S.1 S.2.1 dX3_clear_0 (by decide) ?_
  refine lv_istore_n (lv' := [(1, .int 0), (0, .ref h)]) S.1 S.2.1 dX3_clear_1 rfl hl (by decide) rfl (fun ls hl => ?_)
  have hl2 : ∀ (n2 : Nat), ∀ (v1 : Int32) (g2 : Nat → Int32) (H : Heap) (locs : List Loc) (ls : Array Slot), (fX3_clear_l2 n n2) v1 g2 = some res → xI D A s [(h, .inl (cI, n, .inl g2))] (xT cI cC cZ) H locs → lv_has ls 2 [(1, .int v1), (0, .ref h)] → W p l e (headSpec wsX3_clear rmX3_clear).room s m args below meth c H locs 0 0 Q (F0 m 2 ls []) := by
    intro n2
    induction n2 with
    | zero =>
      intro v1 g2 H locs ls hf I hl
      cases (fX3_clear_l2_z _ _ _).symm.trans hf
    | succ n2 ih2 =>
      intro v1 g2 H locs ls hf I hl
      replace hf := (fX3_clear_l2_e _ _ _ _).symm.trans hf
      refine lv_iload_n S.1 S.2.1 dX3_clear_2 rfl (lv_at hl 0 rfl) ?_
      refine lv_iconst (v := 4) S.1 S.2.1 dX3_clear_3 (by decide) ?_
      refine lv_icmp_ge (tgt := 17) S.1 S.2.1 dX3_clear_4 (by decide) (fun c3 => ?_) (fun c3 => ?_)
      · replace hf := x_ifT hf c3
        exact x_rv E rfl hf rfl I rfl dX3_clear_17
      · replace hf := x_ifF hf c3
        refine lv_aload_n S.1 S.2.1 dX3_clear_7 rfl (lv_at hl 1 rfl) ?_
        refine lv_iload_n S.1 S.2.1 dX3_clear_8 rfl (lv_at hl 0 rfl) ?_
        refine lv_iconst (v := 0) S.1 S.2.1 dX3_clear_9 (by decide) ?_
        obtain ⟨hi4, hf⟩ := x_ldE hf
        refine x_iast (f := g2) (ws' := [(h, .inl (cI, n, .inl (upd g2 v1.toNatClampNeg 0)))]) S I 0 0 rfl rfl hi4 rfl dX3_clear_10 (fun H locs I => ?_)
        refine lv_iinc (v := (v1 + 1)) (lv' := [(1, .int (v1 + 1)), (0, .ref h)]) S.1 S.2.1 dX3_clear_11 hl (k := 0) rfl rfl (by decide) rfl (fun ls hl => ?_)
        refine lv_goto (tgt := 2) S.1 S.2.1 dX3_clear_14 (by decide) ?_
        exact ih2 (v1 + 1) (upd g2 v1.toNatClampNeg 0) _ _ _ hf I (lv_sub hl [0, 1] rfl)
  exact hl2 4096 0 g _ _ _ hf I (lv_sub hl [0, 1] rfl)
set_option maxHeartbeats 4000000 in
set_option maxRecDepth 100000 in
theorem tX3_power (l : Launch) (D : va_G) (cI cC cZ : ClassId) (p1 p2 : Int32) (res : Int32) (hf : fX3_power p1 p2 = some res) : xC l yX3_power wsX3_power rmX3_power D [.int p1, .int p2] [] (fun _ => []) (xT cI cC cZ) (fun t => some (.int t)) res := by
  refine x_of (cc := cX3_power) (maxL := 4) (ret := (some .int)) (by decide) rfl (Nat.le_of_ble_eq_true rfl) ?_
  intro p e s m args below meth c A Q ls S I E hl
  replace hl : lv_has ls 4 [(0, .int p1), (1, .int p2)] := hl
  replace hf := (fX3_power_e _ _).symm.trans hf
  refine lv_iconst (v := 1) S.1 S.2.1 dX3_power_0 (by decide) ?_
  refine lv_istore_n (lv' := [(2, .int 1), (0, .int p1), (1, .int p2)]) S.1 S.2.1 dX3_power_1 rfl hl (by decide) rfl (fun ls hl => ?_)
  refine lv_iconst (v := 0) S.1 S.2.1 dX3_power_2 (by decide) ?_
  refine lv_istore_n (lv' := [(3, .int 0), (2, .int 1), (0, .int p1), (1, .int p2)]) S.1 S.2.1 dX3_power_3 rfl hl (by decide) rfl (fun ls hl => ?_)
  have hl4 : ∀ (n4 : Nat), ∀ (v1 : Int32) (v2 : Int32) (H : Heap) (locs : List Loc) (ls : Array Slot), (fX3_power_l4 p2 p1 n4) v1 v2 = some res → xI D A s [] (xT cI cC cZ) H locs → lv_has ls 4 [(3, .int v2), (2, .int v1), (0, .int p1), (1, .int p2)] → W p l e (headSpec wsX3_power rmX3_power).room s m args below meth c H locs 0 0 Q (F0 m 4 ls []) := by
    intro n4
    induction n4 with
    | zero =>
      intro v1 v2 H locs ls hf I hl
      cases (fX3_power_l4_z _ _ _ _).symm.trans hf
    | succ n4 ih4 =>
      intro v1 v2 H locs ls hf I hl
      replace hf := (fX3_power_l4_e _ _ _ _ _).symm.trans hf
      refine lv_iload_n S.1 S.2.1 dX3_power_4 rfl (lv_at hl 0 rfl) ?_
      refine lv_iload_n S.1 S.2.1 dX3_power_5 rfl (lv_at hl 3 rfl) ?_
      refine lv_icmp_ge (tgt := 19) S.1 S.2.1 dX3_power_6 (by decide) (fun c3 => ?_) (fun c3 => ?_)
      · replace hf := x_ifT hf c3
        refine lv_iload_n S.1 S.2.1 dX3_power_19 rfl (lv_at hl 1 rfl) ?_
        exact x_ri E rfl rfl hf rfl I rfl dX3_power_20
      · replace hf := x_ifF hf c3
        refine lv_iload_n S.1 S.2.1 dX3_power_9 rfl (lv_at hl 1 rfl) ?_
        refine lv_iload_n S.1 S.2.1 dX3_power_10 rfl (lv_at hl 2 rfl) ?_
        refine lv_imul S.1 S.2.1 dX3_power_11 ?_
        refine lv_istore_n (lv' := [(2, .int (v1 * p1)), (3, .int v2), (0, .int p1), (1, .int p2)]) S.1 S.2.1 dX3_power_12 rfl hl (by decide) rfl (fun ls hl => ?_)
        refine lv_iinc (v := (v2 + 1)) (lv' := [(3, .int (v2 + 1)), (2, .int (v1 * p1)), (0, .int p1), (1, .int p2)]) S.1 S.2.1 dX3_power_13 hl (k := 1) rfl rfl (by decide) rfl (fun ls hl => ?_)
        refine lv_goto (tgt := 4) S.1 S.2.1 dX3_power_16 (by decide) ?_
        exact ih4 (v1 * p1) (v2 + 1) _ _ _ hf I (lv_sub hl [0, 1, 2, 3] rfl)
  exact hl4 4096 1 0 _ _ _ hf I (lv_sub hl [0, 1, 2, 3] rfl)
set_option maxHeartbeats 4000000 in
set_option maxRecDepth 100000 in
theorem tX3_give (l : Launch) (D : va_G) (cI cC cZ : ClassId) (h : Nat) (a : Nat → Nat) (F : xF) (G : xG) (p1 : Int32) (res : xG) (hf : fX3_give G p1 = some res) : xC l yX3_give wsX3_give rmX3_give D [.ref h, .int p1] (wX3 cI cC cZ h a F G) (fun t => (wX3 cI cC cZ h a F t)) (xT cI cC cZ) (fun _ => none) res := by
  have kX3 : ∀ w ∈ u_ws RX3 TX3 7, w ∈ wsX3_give := by decide +kernel
  refine x_of (cc := cX3_give) (maxL := 6) (ret := none) (by decide) rfl (Nat.le_of_ble_eq_true rfl) ?_
  intro p e s m args below meth c A Q ls S I E hl
  replace hl : lv_has ls 6 [(0, .ref h), (1, .int p1)] := hl
  replace hf := (fX3_give_e _ _).symm.trans hf
  refine lv_iconst (v := 0) S.1 S.2.1 dX3_give_0 (by decide) ?_
  refine lv_istore_n (lv' := [(2, .int 0), (0, .ref h), (1, .int p1)]) S.1 S.2.1 dX3_give_1 rfl hl (by decide) rfl (fun ls hl => ?_)
  have hl2 : ∀ (n2 : Nat), ∀ (v1 : Int32) (G2 : xG) (H : Heap) (locs : List Loc) (ls : Array Slot), (fX3_give_l2 p1 n2) v1 G2 = some res → xI D A s (wX3 cI cC cZ h a F G2) (xT cI cC cZ) H locs → lv_has ls 6 [(2, .int v1), (0, .ref h), (1, .int p1)] → W p l e (headSpec wsX3_give rmX3_give).room s m args below meth c H locs 0 0 Q (F0 m 2 ls []) := by
    intro n2
    induction n2 with
    | zero =>
      intro v1 G2 H locs ls hf I hl
      cases (fX3_give_l2_z _ _ _).symm.trans hf
    | succ n2 ih2 =>
      intro v1 G2 H locs ls hf I hl
      replace hf := (fX3_give_l2_e _ _ _ _).symm.trans hf
      refine lv_iload_n S.1 S.2.1 dX3_give_2 rfl (lv_at hl 0 rfl) ?_
      refine lv_aload_n S.1 S.2.1 dX3_give_3 rfl (lv_at hl 1 rfl) ?_
      refine x_get (C := RX3) (T := TX3) (N := 7) (ci := 2) (v := .ref (a 0)) S kX3 rfl I 0 0 rfl (by decide) (by decide +kernel) rfl dX3_give_4 ?_
      refine lv_iload_n S.1 S.2.1 dX3_give_7 rfl (lv_at hl 2 rfl) ?_
      obtain ⟨hi3, hf⟩ := x_ldE hf
      refine x_iald (f := (G2 0)) S I 1 0 rfl rfl hi3 dX3_give_8 ?_
      refine lv_icmp_ge (tgt := 83) S.1 S.2.1 dX3_give_9 (by decide) (fun c4 => ?_) (fun c4 => ?_)
      · replace hf := x_ifT hf c4
        exact x_rv E rfl hf rfl I rfl dX3_give_83
      · replace hf := x_ifF hf c4
        refine lv_aload_n S.1 S.2.1 dX3_give_12 rfl (lv_at hl 1 rfl) ?_
        refine x_get (C := RX3) (T := TX3) (N := 7) (ci := 2) (v := .ref (a 2)) S kX3 rfl I 0 2 rfl (by decide) (by decide +kernel) rfl dX3_give_13 ?_
        refine lv_iload_n S.1 S.2.1 dX3_give_16 rfl (lv_at hl 2 rfl) ?_
        obtain ⟨hi5, hf⟩ := x_ldE hf
        refine x_iald (f := (G2 2)) S I 3 0 rfl rfl hi5 dX3_give_17 ?_
        refine lv_iload_n S.1 S.2.1 dX3_give_18 rfl (lv_at hl 0 rfl) ?_
        obtain ⟨r7, hg6, hf⟩ := x_b1E hf
        refine x_c0 (As := [.int ((G2 2) p1.toNatClampNeg), .int v1]) (rest := []) (st' := [.int r7]) S I rfl (tX3_solving l D cI cC cZ ((G2 2) p1.toNatClampNeg) v1 r7 hg6) (va_cwS 2 S.2.2.2.2 gX3_give_X3_solving rfl rfl rfl (by decide +kernel) ⟨Nat.le_of_ble_eq_true rfl, Nat.le_of_ble_eq_true rfl⟩) hl rfl (Nat.le_of_ble_eq_true rfl) ⟨Nat.zero_le _, Nat.zero_le _⟩ rfl dX3_give_19 (fun H locs I => ?_)
        refine lv_istore_n (lv' := [(3, .int r7), (2, .int v1), (0, .ref h), (1, .int p1)]) S.1 S.2.1 dX3_give_22 rfl hl (by decide) rfl (fun ls hl => ?_)
        refine lv_iconst (v := 0) S.1 S.2.1 dX3_give_23 (by decide) ?_
        refine lv_istore (lv' := [(4, .int 0), (3, .int r7), (2, .int v1), (0, .ref h), (1, .int p1)]) S.1 S.2.1 dX3_give_24 hl (by decide) rfl (fun ls hl => ?_)
        refine lv_iconst (v := 0) S.1 S.2.1 dX3_give_26 (by decide) ?_
        refine lv_istore (lv' := [(5, .int 0), (4, .int 0), (3, .int r7), (2, .int v1), (0, .ref h), (1, .int p1)]) S.1 S.2.1 dX3_give_27 hl (by decide) rfl (fun ls hl => ?_)
        have hx69 : ∀ (v8 : Int32) (H : Heap) (locs : List Loc) (ls : Array Slot), (fX3_give_x69 (fX3_give_l2 p1 n2) G2 v1) v8 = some res → xI D A s (wX3 cI cC cZ h a F G2) (xT cI cC cZ) H locs → lv_has ls 6 [(4, .int v8), (2, .int v1), (0, .ref h), (1, .int p1)] → W p l e (headSpec wsX3_give rmX3_give).room s m args below meth c H locs 0 0 Q (F0 m 69 ls []) := by
          intro v8 H locs ls hf I hl
          replace hf := (fX3_give_x69_e _ _ _ _).symm.trans hf
          refine lv_aload_n S.1 S.2.1 dX3_give_69 rfl (lv_at hl 2 rfl) ?_
          refine x_get (C := RX3) (T := TX3) (N := 7) (ci := 2) (v := .ref (a 5)) S kX3 rfl I 0 5 rfl (by decide) (by decide +kernel) rfl dX3_give_70 ?_
          refine lv_iload_n S.1 S.2.1 dX3_give_73 rfl (lv_at hl 1 rfl) ?_
          refine lv_iload S.1 S.2.1 dX3_give_74 (lv_at hl 0 rfl) ?_
          obtain ⟨hi9, hf⟩ := x_ldE hf
          refine x_iast (f := (G2 5)) (ws' := (wX3 cI cC cZ h a F (va_up G2 5 (upd (G2 5) v1.toNatClampNeg v8)))) S I 6 0 rfl rfl hi9 rfl dX3_give_76 (fun H locs I => ?_)
          refine lv_iinc (v := (v1 + 1)) (lv' := [(2, .int (v1 + 1)), (4, .int v8), (0, .ref h), (1, .int p1)]) S.1 S.2.1 dX3_give_77 hl (k := 1) rfl rfl (by decide) rfl (fun ls hl => ?_)
          refine lv_goto (tgt := 2) S.1 S.2.1 dX3_give_80 (by decide) ?_
          exact ih2 (v1 + 1) (va_up G2 5 (upd (G2 5) v1.toNatClampNeg v8)) _ _ _ hf I (lv_sub hl [0, 2, 3] rfl)
        have hl29 : ∀ (n29 : Nat), ∀ (v10 : Int32) (v11 : Int32) (H : Heap) (locs : List Loc) (ls : Array Slot), (fX3_give_l29 (fX3_give_l2 p1 n2) G2 p1 v1 r7 n29) v10 v11 = some res → xI D A s (wX3 cI cC cZ h a F G2) (xT cI cC cZ) H locs → lv_has ls 6 [(5, .int v11), (4, .int v10), (3, .int r7), (2, .int v1), (0, .ref h), (1, .int p1)] → W p l e (headSpec wsX3_give rmX3_give).room s m args below meth c H locs 0 0 Q (F0 m 29 ls []) := by
          intro n29
          induction n29 with
          | zero =>
            intro v10 v11 H locs ls hf I hl
            cases (fX3_give_l29_z _ _ _ _ _ _ _).symm.trans hf
          | succ n29 ih29 =>
            intro v10 v11 H locs ls hf I hl
            replace hf := (fX3_give_l29_e _ _ _ _ _ _ _ _).symm.trans hf
            refine lv_iload S.1 S.2.1 dX3_give_29 (lv_at hl 0 rfl) ?_
            refine lv_aload_n S.1 S.2.1 dX3_give_31 rfl (lv_at hl 4 rfl) ?_
            refine x_get (C := RX3) (T := TX3) (N := 7) (ci := 2) (v := .ref (a 1)) S kX3 rfl I 0 1 rfl (by decide) (by decide +kernel) rfl dX3_give_32 ?_
            refine lv_iload_n S.1 S.2.1 dX3_give_35 rfl (lv_at hl 5 rfl) ?_
            obtain ⟨hi12, hf⟩ := x_ldE hf
            refine x_iald (f := (G2 1)) S I 2 0 rfl rfl hi12 dX3_give_36 ?_
            refine lv_icmp_ge (tgt := 69) S.1 S.2.1 dX3_give_37 (by decide) (fun c13 => ?_) (fun c13 => ?_)
            · replace hf := x_ifT hf c13
              exact hx69 v10 _ _ _ hf I (lv_sub hl [1, 3, 4, 5] rfl)
            · replace hf := x_ifF hf c13
              refine lv_iload_n S.1 S.2.1 dX3_give_40 rfl (lv_at hl 2 rfl) ?_
              refine lv_iload S.1 S.2.1 dX3_give_41 (lv_at hl 0 rfl) ?_
              refine lv_ishr S.1 S.2.1 dX3_give_43 ?_
              refine lv_iconst (v := 1) S.1 S.2.1 dX3_give_44 (by decide) ?_
              refine lv_iand S.1 S.2.1 dX3_give_45 ?_
              have hj63 : ∀ (v14 : Int32) (H : Heap) (locs : List Loc) (ls : Array Slot), (fX3_give_j63 (fX3_give_l29 (fX3_give_l2 p1 n2) G2 p1 v1 r7 n29) v11) v14 = some res → xI D A s (wX3 cI cC cZ h a F G2) (xT cI cC cZ) H locs → lv_has ls 6 [(5, .int v11), (4, .int v14), (3, .int r7), (2, .int v1), (0, .ref h), (1, .int p1)] → W p l e (headSpec wsX3_give rmX3_give).room s m args below meth c H locs 0 0 Q (F0 m 63 ls []) := by
                intro v14 H locs ls hf I hl
                replace hf := (fX3_give_j63_e _ _ _).symm.trans hf
                refine lv_iinc (v := (v11 + 1)) (lv' := [(5, .int (v11 + 1)), (4, .int v14), (3, .int r7), (2, .int v1), (0, .ref h), (1, .int p1)]) S.1 S.2.1 dX3_give_63 hl (k := 0) rfl rfl (by decide) rfl (fun ls hl => ?_)
                refine lv_goto (tgt := 29) S.1 S.2.1 dX3_give_66 (by decide) ?_
                exact ih29 v14 (v11 + 1) _ _ _ hf I (lv_sub hl [0, 1, 2, 3, 4, 5] rfl)
              refine lv_if_eq (tgt := 63) S.1 S.2.1 dX3_give_46 (by decide) (fun c15 => ?_) (fun c15 => ?_)
              · replace hf := x_ifT hf c15
                exact hj63 v10 _ _ _ hf I (lv_sub hl [0, 1, 2, 3, 4, 5] rfl)
              · replace hf := x_ifF hf c15
                refine lv_iload S.1 S.2.1 dX3_give_49 (lv_at hl 1 rfl) ?_
                refine lv_iconst (v := 1) S.1 S.2.1 dX3_give_51 (by decide) ?_
                refine lv_aload_n S.1 S.2.1 dX3_give_52 rfl (lv_at hl 4 rfl) ?_
                refine x_get (C := RX3) (T := TX3) (N := 7) (ci := 2) (v := .ref (a 3)) S kX3 rfl I 0 3 rfl (by decide) (by decide +kernel) rfl dX3_give_53 ?_
                refine lv_iload S.1 S.2.1 dX3_give_56 (lv_at hl 0 rfl) ?_
                obtain ⟨hi16, hf⟩ := x_ldE hf
                refine x_iald (f := (G2 3)) S I 4 0 rfl rfl hi16 dX3_give_58 ?_
                refine lv_ishl S.1 S.2.1 dX3_give_59 ?_
                refine lv_ior S.1 S.2.1 dX3_give_60 ?_
                refine lv_istore (lv' := [(4, .int (v10 ||| (x_shl 1 ((G2 3) v11.toNatClampNeg)))), (5, .int v11), (3, .int r7), (2, .int v1), (0, .ref h), (1, .int p1)]) S.1 S.2.1 dX3_give_61 hl (by decide) rfl (fun ls hl => ?_)
                exact hj63 (v10 ||| (x_shl 1 ((G2 3) v11.toNatClampNeg))) _ _ _ hf I (lv_sub hl [1, 0, 2, 3, 4, 5] rfl)
        exact hl29 4096 0 0 _ _ _ hf I (lv_sub hl [0, 1, 2, 3, 4, 5] rfl)
  exact hl2 4096 0 G _ _ _ hf I (lv_sub hl [0, 1, 2] rfl)
set_option maxHeartbeats 4000000 in
set_option maxRecDepth 100000 in
theorem tX3_isSolvedBack (l : Launch) (D : va_G) (cI cC cZ : ClassId) (h : Nat) (a : Nat → Nat) (F : xF) (G : xG) (p1 p2 p3 : Int32) (res : Int32) (hf : fX3_isSolvedBack G p1 p2 p3 = some res) : xC l yX3_isSolvedBack wsX3_isSolvedBack rmX3_isSolvedBack D [.ref h, .int p1, .int p2, .int p3] (wX3 cI cC cZ h a F G) (fun _ => (wX3 cI cC cZ h a F G)) (xT cI cC cZ) (fun t => some (.int t)) res := by
  have kX3 : ∀ w ∈ u_ws RX3 TX3 7, w ∈ wsX3_isSolvedBack := by decide +kernel
  refine x_of (cc := cX3_isSolvedBack) (maxL := 4) (ret := (some .boolean)) (by decide) rfl (Nat.le_of_ble_eq_true rfl) ?_
  intro p e s m args below meth c A Q ls S I E hl
  replace hl : lv_has ls 4 [(0, .ref h), (1, .int p1), (2, .int p2), (3, .int p3)] := hl
  replace hf := (fX3_isSolvedBack_e _ _ _ _).symm.trans hf
  refine lv_aload_n S.1 S.2.1 dX3_isSolvedBack_0 rfl (lv_at hl 0 rfl) ?_
  refine x_get (C := RX3) (T := TX3) (N := 7) (ci := 2) (v := .ref (a 5)) S kX3 rfl I 0 5 rfl (by decide) (by decide +kernel) rfl dX3_isSolvedBack_1 ?_
  refine lv_iload_n S.1 S.2.1 dX3_isSolvedBack_4 rfl (lv_at hl 3 rfl) ?_
  obtain ⟨hi1, hf⟩ := x_ldE hf
  refine x_iald (f := (G 5)) S I 6 0 rfl rfl hi1 dX3_isSolvedBack_5 ?_
  refine lv_aload_n S.1 S.2.1 dX3_isSolvedBack_6 rfl (lv_at hl 0 rfl) ?_
  refine x_get (C := RX3) (T := TX3) (N := 7) (ci := 2) (v := .ref (a 2)) S kX3 rfl I 0 2 rfl (by decide) (by decide +kernel) rfl dX3_isSolvedBack_7 ?_
  refine lv_iload_n S.1 S.2.1 dX3_isSolvedBack_10 rfl (lv_at hl 1 rfl) ?_
  obtain ⟨hi2, hf⟩ := x_ldE hf
  refine x_iald (f := (G 2)) S I 3 0 rfl rfl hi2 dX3_isSolvedBack_11 ?_
  refine lv_iload_n S.1 S.2.1 dX3_isSolvedBack_12 rfl (lv_at hl 2 rfl) ?_
  obtain ⟨r4, hg3, hf⟩ := x_b1E hf
  refine x_c0 (As := [.int ((G 2) p1.toNatClampNeg), .int p2]) (rest := [.int ((G 5) p3.toNatClampNeg)]) (st' := [.int r4, .int ((G 5) p3.toNatClampNeg)]) S I rfl (tX3_solving l D cI cC cZ ((G 2) p1.toNatClampNeg) p2 r4 hg3) (va_cwS 2 S.2.2.2.2 gX3_isSolvedBack_X3_solving rfl rfl rfl (by decide +kernel) ⟨Nat.le_of_ble_eq_true rfl, Nat.le_of_ble_eq_true rfl⟩) hl rfl (Nat.le_of_ble_eq_true rfl) ⟨Nat.zero_le _, Nat.zero_le _⟩ rfl dX3_isSolvedBack_13 (fun H locs I => ?_)
  refine lv_iconst (v := (-1)) S.1 S.2.1 dX3_isSolvedBack_16 (by decide) ?_
  refine lv_ixor S.1 S.2.1 dX3_isSolvedBack_17 ?_
  refine lv_iand S.1 S.2.1 dX3_isSolvedBack_18 ?_
  refine lv_if_ne (tgt := 26) S.1 S.2.1 dX3_isSolvedBack_19 (by decide) (fun c5 => ?_) (fun c5 => ?_)
  · replace hf := x_ifF hf c5
    refine lv_iconst (v := 0) S.1 S.2.1 dX3_isSolvedBack_26 (by decide) ?_
    exact x_ri E rfl x_n0 hf rfl I rfl dX3_isSolvedBack_27
  · replace hf := x_ifT hf c5
    refine lv_iconst (v := 1) S.1 S.2.1 dX3_isSolvedBack_22 (by decide) ?_
    refine lv_goto (tgt := 27) S.1 S.2.1 dX3_isSolvedBack_23 (by decide) ?_
    exact x_ri E rfl x_n1 hf rfl I rfl dX3_isSolvedBack_27
set_option maxHeartbeats 4000000 in
set_option maxRecDepth 100000 in
theorem tX3_forthDoes (l : Launch) (D : va_G) (cI cC cZ : ClassId) (h : Nat) (a : Nat → Nat) (F : xF) (G : xG) (p1 : Int32) (res : Int32) (hf : fX3_forthDoes G p1 = some res) : xC l yX3_forthDoes wsX3_forthDoes rmX3_forthDoes D [.ref h, .int p1] (wX3 cI cC cZ h a F G) (fun _ => (wX3 cI cC cZ h a F G)) (xT cI cC cZ) (fun t => some (.int t)) res := by
  have kX3 : ∀ w ∈ u_ws RX3 TX3 7, w ∈ wsX3_forthDoes := by decide +kernel
  refine x_of (cc := cX3_forthDoes) (maxL := 3) (ret := (some .boolean)) (by decide) rfl (Nat.le_of_ble_eq_true rfl) ?_
  intro p e s m args below meth c A Q ls S I E hl
  replace hl : lv_has ls 3 [(0, .ref h), (1, .int p1)] := hl
  replace hf := (fX3_forthDoes_e _ _).symm.trans hf
  refine lv_iconst (v := 0) S.1 S.2.1 dX3_forthDoes_0 (by decide) ?_
  refine lv_istore_n (lv' := [(2, .int 0), (0, .ref h), (1, .int p1)]) S.1 S.2.1 dX3_forthDoes_1 rfl hl (by decide) rfl (fun ls hl => ?_)
  have hl2 : ∀ (n2 : Nat), ∀ (v1 : Int32) (H : Heap) (locs : List Loc) (ls : Array Slot), (fX3_forthDoes_l2 G p1 n2) v1 = some res → xI D A s (wX3 cI cC cZ h a F G) (xT cI cC cZ) H locs → lv_has ls 3 [(2, .int v1), (0, .ref h), (1, .int p1)] → W p l e (headSpec wsX3_forthDoes rmX3_forthDoes).room s m args below meth c H locs 0 0 Q (F0 m 2 ls []) := by
    intro n2
    induction n2 with
    | zero =>
      intro v1 H locs ls hf I hl
      cases (fX3_forthDoes_l2_z _ _ _).symm.trans hf
    | succ n2 ih2 =>
      intro v1 H locs ls hf I hl
      replace hf := (fX3_forthDoes_l2_e _ _ _ _).symm.trans hf
      refine lv_iload_n S.1 S.2.1 dX3_forthDoes_2 rfl (lv_at hl 0 rfl) ?_
      refine lv_aload_n S.1 S.2.1 dX3_forthDoes_3 rfl (lv_at hl 1 rfl) ?_
      refine x_get (C := RX3) (T := TX3) (N := 7) (ci := 2) (v := .ref (a 0)) S kX3 rfl I 0 0 rfl (by decide) (by decide +kernel) rfl dX3_forthDoes_4 ?_
      refine lv_iload_n S.1 S.2.1 dX3_forthDoes_7 rfl (lv_at hl 2 rfl) ?_
      obtain ⟨hi2, hf⟩ := x_ldE hf
      refine x_iald (f := (G 0)) S I 1 0 rfl rfl hi2 dX3_forthDoes_8 ?_
      refine lv_icmp_ge (tgt := 35) S.1 S.2.1 dX3_forthDoes_9 (by decide) (fun c3 => ?_) (fun c3 => ?_)
      · replace hf := x_ifT hf c3
        refine lv_iconst (v := 1) S.1 S.2.1 dX3_forthDoes_35 (by decide) ?_
        exact x_ri E rfl x_n1 hf rfl I rfl dX3_forthDoes_36
      · replace hf := x_ifF hf c3
        refine lv_aload_n S.1 S.2.1 dX3_forthDoes_12 rfl (lv_at hl 1 rfl) ?_
        refine lv_iload_n S.1 S.2.1 dX3_forthDoes_13 rfl (lv_at hl 2 rfl) ?_
        refine lv_iload_n S.1 S.2.1 dX3_forthDoes_14 rfl (lv_at hl 0 rfl) ?_
        refine lv_aload_n S.1 S.2.1 dX3_forthDoes_15 rfl (lv_at hl 1 rfl) ?_
        refine x_get (C := RX3) (T := TX3) (N := 7) (ci := 2) (v := .ref (a 4)) S kX3 rfl I 0 4 rfl (by decide) (by decide +kernel) rfl dX3_forthDoes_16 ?_
        refine lv_iload_n S.1 S.2.1 dX3_forthDoes_19 rfl (lv_at hl 0 rfl) ?_
        obtain ⟨hi4, hf⟩ := x_ldE hf
        refine x_iald (f := (G 4)) S I 5 0 rfl rfl hi4 dX3_forthDoes_20 ?_
        obtain ⟨r6, hg5, hf⟩ := x_b1E hf
        refine x_cA (As := [.int p1, .int v1, .int ((G 4) v1.toNatClampNeg)]) (rest := []) (st' := [.int r6]) (ws' := (wX3 cI cC cZ h a F G)) S I (tX3_isSolvedBack l D cI cC cZ h a F G p1 v1 ((G 4) v1.toNatClampNeg) r6 hg5) (cwV 3 S.2.2.2.2 gX3_forthDoes_X3_isSolvedBack rfl rfl rfl (by decide +kernel) ⟨Nat.le_of_ble_eq_true rfl, Nat.le_of_ble_eq_true rfl⟩) 0 2 rfl rfl rfl rfl hl rfl (Nat.le_of_ble_eq_true rfl) ⟨Nat.zero_le _, Nat.zero_le _⟩ rfl dX3_forthDoes_21 (fun H locs I => ?_)
        refine lv_if_ne (tgt := 29) S.1 S.2.1 dX3_forthDoes_24 (by decide) (fun c7 => ?_) (fun c7 => ?_)
        · replace hf := x_ifF hf c7
          refine lv_iinc (v := (v1 + 1)) (lv' := [(2, .int (v1 + 1)), (0, .ref h), (1, .int p1)]) S.1 S.2.1 dX3_forthDoes_29 hl (k := 0) rfl rfl (by decide) rfl (fun ls hl => ?_)
          refine lv_goto (tgt := 2) S.1 S.2.1 dX3_forthDoes_32 (by decide) ?_
          exact ih2 (v1 + 1) _ _ _ hf I (lv_sub hl [0, 1, 2] rfl)
        · replace hf := x_ifT hf c7
          refine lv_iconst (v := 0) S.1 S.2.1 dX3_forthDoes_27 (by decide) ?_
          exact x_ri E rfl x_n0 hf rfl I rfl dX3_forthDoes_28
  exact hl2 4096 0 _ _ _ hf I (lv_sub hl [0, 1, 2] rfl)
set_option maxHeartbeats 4000000 in
set_option maxRecDepth 100000 in
theorem tX3_advance (l : Launch) (D : va_G) (cI cC cZ : ClassId) (h n : Nat) (g : Nat → Int32) (p2 p3 : Int32) (res : (Nat → Int32)) (hf : fX3_advance n g p2 p3 = some res) : xC l yX3_advance wsX3_advance rmX3_advance D [.ref h, .int p2, .int p3] [(h, .inl (cI, n, .inl g))] (fun t => [(h, .inl (cI, n, .inl t))]) (xT cI cC cZ) (fun _ => none) res := by
  refine x_of (cc := cX3_advance) (maxL := 4) (ret := none) (by decide) rfl (Nat.le_of_ble_eq_true rfl) ?_
  intro p e s m args below meth c A Q ls S I E hl
  replace hl : lv_has ls 4 [(0, .ref h), (1, .int p2), (2, .int p3)] := hl
  replace hf := (fX3_advance_e _ _ _ _).symm.trans hf
  refine lv_iconst (v := 0) S.1 S.2.1 dX3_advance_0 (by decide) ?_
  refine lv_istore_n (lv' := [(3, .int 0), (0, .ref h), (1, .int p2), (2, .int p3)]) S.1 S.2.1 dX3_advance_1 rfl hl (by decide) rfl (fun ls hl => ?_)
  have hl2 : ∀ (n2 : Nat), ∀ (v1 : Int32) (g2 : Nat → Int32) (H : Heap) (locs : List Loc) (ls : Array Slot), (fX3_advance_l2 p2 n p3 n2) v1 g2 = some res → xI D A s [(h, .inl (cI, n, .inl g2))] (xT cI cC cZ) H locs → lv_has ls 4 [(3, .int v1), (0, .ref h), (1, .int p2), (2, .int p3)] → W p l e (headSpec wsX3_advance rmX3_advance).room s m args below meth c H locs 0 0 Q (F0 m 2 ls []) := by
    intro n2
    induction n2 with
    | zero =>
      intro v1 g2 H locs ls hf I hl
      cases (fX3_advance_l2_z _ _ _ _ _).symm.trans hf
    | succ n2 ih2 =>
      intro v1 g2 H locs ls hf I hl
      replace hf := (fX3_advance_l2_e _ _ _ _ _ _).symm.trans hf
      refine lv_iload_n S.1 S.2.1 dX3_advance_2 rfl (lv_at hl 0 rfl) ?_
      refine lv_iload_n S.1 S.2.1 dX3_advance_3 rfl (lv_at hl 2 rfl) ?_
      refine lv_icmp_ge (tgt := 32) S.1 S.2.1 dX3_advance_4 (by decide) (fun c3 => ?_) (fun c3 => ?_)
      · replace hf := x_ifT hf c3
        exact x_rv E rfl hf rfl I rfl dX3_advance_32
      · replace hf := x_ifF hf c3
        refine lv_aload_n S.1 S.2.1 dX3_advance_7 rfl (lv_at hl 1 rfl) ?_
        refine lv_iload_n S.1 S.2.1 dX3_advance_8 rfl (lv_at hl 0 rfl) ?_
        refine lv_dup2_11 S.1 S.2.1 dX3_advance_9 rfl rfl ?_
        obtain ⟨hi4, hf⟩ := x_ldE hf
        refine x_iald (f := g2) S I 0 0 rfl rfl hi4 dX3_advance_10 ?_
        refine lv_iconst (v := 1) S.1 S.2.1 dX3_advance_11 (by decide) ?_
        refine lv_iadd S.1 S.2.1 dX3_advance_12 ?_
        obtain ⟨hi5, hf⟩ := x_ldE hf
        refine x_iast (f := g2) (ws' := [(h, .inl (cI, n, .inl (upd g2 v1.toNatClampNeg ((g2 v1.toNatClampNeg) + 1))))]) S I 0 0 rfl rfl hi5 rfl dX3_advance_13 (fun H locs I => ?_)
        refine lv_aload_n S.1 S.2.1 dX3_advance_14 rfl (lv_at hl 1 rfl) ?_
        refine lv_iload_n S.1 S.2.1 dX3_advance_15 rfl (lv_at hl 0 rfl) ?_
        obtain ⟨hi6, hf⟩ := x_ldE hf
        refine x_iald (f := (upd g2 v1.toNatClampNeg ((g2 v1.toNatClampNeg) + 1))) S I 0 0 rfl rfl hi6 dX3_advance_16 ?_
        refine lv_iload_n S.1 S.2.1 dX3_advance_17 rfl (lv_at hl 3 rfl) ?_
        refine lv_icmp_ge (tgt := 22) S.1 S.2.1 dX3_advance_18 (by decide) (fun c7 => ?_) (fun c7 => ?_)
        · replace hf := x_ifT hf c7
          refine lv_aload_n S.1 S.2.1 dX3_advance_22 rfl (lv_at hl 1 rfl) ?_
          refine lv_iload_n S.1 S.2.1 dX3_advance_23 rfl (lv_at hl 0 rfl) ?_
          refine lv_iconst (v := 0) S.1 S.2.1 dX3_advance_24 (by decide) ?_
          obtain ⟨hi8, hf⟩ := x_ldE hf
          refine x_iast (f := (upd g2 v1.toNatClampNeg ((g2 v1.toNatClampNeg) + 1))) (ws' := [(h, .inl (cI, n, .inl (upd (upd g2 v1.toNatClampNeg ((g2 v1.toNatClampNeg) + 1)) v1.toNatClampNeg 0)))]) S I 0 0 rfl rfl hi8 rfl dX3_advance_25 (fun H locs I => ?_)
          refine lv_iinc (v := (v1 + 1)) (lv' := [(3, .int (v1 + 1)), (0, .ref h), (1, .int p2), (2, .int p3)]) S.1 S.2.1 dX3_advance_26 hl (k := 0) rfl rfl (by decide) rfl (fun ls hl => ?_)
          refine lv_goto (tgt := 2) S.1 S.2.1 dX3_advance_29 (by decide) ?_
          exact ih2 (v1 + 1) (upd (upd g2 v1.toNatClampNeg ((g2 v1.toNatClampNeg) + 1)) v1.toNatClampNeg 0) _ _ _ hf I (lv_sub hl [0, 1, 2, 3] rfl)
        · replace hf := x_ifF hf c7
          exact x_rv E rfl hf rfl I rfl dX3_advance_21
  exact hl2 4096 0 g _ _ _ hf I (lv_sub hl [0, 1, 2, 3] rfl)
set_option maxHeartbeats 4000000 in
set_option maxRecDepth 100000 in
theorem tX3_someForthDoes (l : Launch) (D : va_G) (cI cC cZ : ClassId) (h : Nat) (a : Nat → Nat) (F : xF) (G : xG) (p1 p2 : Int32) (res : Int32 × xG) (hf : fX3_someForthDoes G p1 p2 = some res) : xC l yX3_someForthDoes wsX3_someForthDoes rmX3_someForthDoes D [.ref h, .int p1, .int p2] (wX3 cI cC cZ h a F G) (fun t => (wX3 cI cC cZ h a F t.2)) (xT cI cC cZ) (fun t => some (.int t.1)) res := by
  have kX3 : ∀ w ∈ u_ws RX3 TX3 7, w ∈ wsX3_someForthDoes := by decide +kernel
  refine x_of (cc := cX3_someForthDoes) (maxL := 5) (ret := (some .boolean)) (by decide) rfl (Nat.le_of_ble_eq_true rfl) ?_
  intro p e s m args below meth c A Q ls S I E hl
  replace hl : lv_has ls 5 [(0, .ref h), (1, .int p1), (2, .int p2)] := hl
  replace hf := (fX3_someForthDoes_e _ _ _).symm.trans hf
  refine lv_aload_n S.1 S.2.1 dX3_someForthDoes_0 rfl (lv_at hl 0 rfl) ?_
  refine x_get (C := RX3) (T := TX3) (N := 7) (ci := 2) (v := .ref (a 4)) S kX3 rfl I 0 4 rfl (by decide) (by decide +kernel) rfl dX3_someForthDoes_1 ?_
  obtain ⟨g2, hg1, hf⟩ := x_b1E hf
  refine x_cS (As := [.ref (a 4)]) (rest := []) (st' := []) (ws' := (wX3 cI cC cZ h a F (va_up G 4 g2))) S I (tX3_clear l D cI cC cZ (a 4) 4 (G 4)  g2 hg1) (va_cwS 1 S.2.2.2.2 gX3_someForthDoes_X3_clear rfl rfl rfl (by decide +kernel) ⟨Nat.le_of_ble_eq_true rfl, Nat.le_of_ble_eq_true rfl⟩) [5] [0, 1, 2, 3, 4, 6] [0, 1, 2, 3, 4, 6, 5] rfl rfl rfl rfl (by decide) rfl rfl rfl hl rfl (Nat.le_of_ble_eq_true rfl) ⟨Nat.zero_le _, Nat.zero_le _⟩ rfl dX3_someForthDoes_4 (fun H locs I => ?_)
  refine lv_aload_n S.1 S.2.1 dX3_someForthDoes_7 rfl (lv_at hl 0 rfl) ?_
  refine x_get (C := RX3) (T := TX3) (N := 7) (ci := 2) (v := .ref (a 0)) S kX3 rfl I 0 0 rfl (by decide) (by decide +kernel) rfl dX3_someForthDoes_8 ?_
  refine lv_iload_n S.1 S.2.1 dX3_someForthDoes_11 rfl (lv_at hl 2 rfl) ?_
  obtain ⟨hi3, hf⟩ := x_ldE hf
  refine x_iald (f := (G 0)) S I 1 0 rfl rfl hi3 dX3_someForthDoes_12 ?_
  refine lv_aload_n S.1 S.2.1 dX3_someForthDoes_13 rfl (lv_at hl 0 rfl) ?_
  refine x_get (C := RX3) (T := TX3) (N := 7) (ci := 2) (v := .ref (a 0)) S kX3 rfl I 0 0 rfl (by decide) (by decide +kernel) rfl dX3_someForthDoes_14 ?_
  refine lv_iload_n S.1 S.2.1 dX3_someForthDoes_17 rfl (lv_at hl 1 rfl) ?_
  obtain ⟨hi4, hf⟩ := x_ldE hf
  refine x_iald (f := (G 0)) S I 1 0 rfl rfl hi4 dX3_someForthDoes_18 ?_
  obtain ⟨r6, hg5, hf⟩ := x_b1E hf
  refine x_c0 (As := [.int ((G 0) p2.toNatClampNeg), .int ((G 0) p1.toNatClampNeg)]) (rest := []) (st' := [.int r6]) S I rfl (tX3_power l D cI cC cZ ((G 0) p2.toNatClampNeg) ((G 0) p1.toNatClampNeg) r6 hg5) (va_cwS 2 S.2.2.2.2 gX3_someForthDoes_X3_power rfl rfl rfl (by decide +kernel) ⟨Nat.le_of_ble_eq_true rfl, Nat.le_of_ble_eq_true rfl⟩) hl rfl (Nat.le_of_ble_eq_true rfl) ⟨Nat.zero_le _, Nat.zero_le _⟩ rfl dX3_someForthDoes_19 (fun H locs I => ?_)
  refine lv_istore_n (lv' := [(3, .int r6), (0, .ref h), (1, .int p1), (2, .int p2)]) S.1 S.2.1 dX3_someForthDoes_22 rfl hl (by decide) rfl (fun ls hl => ?_)
  refine lv_iconst (v := 0) S.1 S.2.1 dX3_someForthDoes_23 (by decide) ?_
  refine lv_istore (lv' := [(4, .int 0), (3, .int r6), (0, .ref h), (1, .int p1), (2, .int p2)]) S.1 S.2.1 dX3_someForthDoes_24 hl (by decide) rfl (fun ls hl => ?_)
  have hl26 : ∀ (n26 : Nat), ∀ (v7 : Int32) (G8 : xG) (H : Heap) (locs : List Loc) (ls : Array Slot), (fX3_someForthDoes_l26 r6 p1 p2 n26) v7 G8 = some res → xI D A s (wX3 cI cC cZ h a F G8) (xT cI cC cZ) H locs → lv_has ls 5 [(4, .int v7), (3, .int r6), (0, .ref h), (1, .int p1), (2, .int p2)] → W p l e (headSpec wsX3_someForthDoes rmX3_someForthDoes).room s m args below meth c H locs 0 0 Q (F0 m 26 ls []) := by
    intro n26
    induction n26 with
    | zero =>
      intro v7 G8 H locs ls hf I hl
      cases (fX3_someForthDoes_l26_z _ _ _ _ _).symm.trans hf
    | succ n26 ih26 =>
      intro v7 G8 H locs ls hf I hl
      replace hf := (fX3_someForthDoes_l26_e _ _ _ _ _ _).symm.trans hf
      refine lv_iload S.1 S.2.1 dX3_someForthDoes_26 (lv_at hl 0 rfl) ?_
      refine lv_iload_n S.1 S.2.1 dX3_someForthDoes_28 rfl (lv_at hl 1 rfl) ?_
      refine lv_icmp_ge (tgt := 67) S.1 S.2.1 dX3_someForthDoes_29 (by decide) (fun c9 => ?_) (fun c9 => ?_)
      · replace hf := x_ifT hf c9
        refine lv_iconst (v := 0) S.1 S.2.1 dX3_someForthDoes_67 (by decide) ?_
        exact x_ri E rfl x_n0 hf rfl I rfl dX3_someForthDoes_68
      · replace hf := x_ifF hf c9
        refine lv_aload_n S.1 S.2.1 dX3_someForthDoes_32 rfl (lv_at hl 2 rfl) ?_
        refine lv_iload_n S.1 S.2.1 dX3_someForthDoes_33 rfl (lv_at hl 3 rfl) ?_
        obtain ⟨r11, hg10, hf⟩ := x_b1E hf
        refine x_cA (As := [.int p1]) (rest := []) (st' := [.int r11]) (ws' := (wX3 cI cC cZ h a F G8)) S I (tX3_forthDoes l D cI cC cZ h a F G8 p1 r11 hg10) (cwV 1 S.2.2.2.2 gX3_someForthDoes_X3_forthDoes rfl rfl rfl (by decide +kernel) ⟨Nat.le_of_ble_eq_true rfl, Nat.le_of_ble_eq_true rfl⟩) 0 2 rfl rfl rfl rfl hl rfl (Nat.le_of_ble_eq_true rfl) ⟨Nat.zero_le _, Nat.zero_le _⟩ rfl dX3_someForthDoes_34 (fun H locs I => ?_)
        refine lv_if_eq (tgt := 42) S.1 S.2.1 dX3_someForthDoes_37 (by decide) (fun c12 => ?_) (fun c12 => ?_)
        · replace hf := x_ifT hf c12
          refine lv_aload_n S.1 S.2.1 dX3_someForthDoes_42 rfl (lv_at hl 2 rfl) ?_
          refine x_get (C := RX3) (T := TX3) (N := 7) (ci := 2) (v := .ref (a 4)) S kX3 rfl I 0 4 rfl (by decide) (by decide +kernel) rfl dX3_someForthDoes_43 ?_
          refine lv_aload_n S.1 S.2.1 dX3_someForthDoes_46 rfl (lv_at hl 2 rfl) ?_
          refine x_get (C := RX3) (T := TX3) (N := 7) (ci := 2) (v := .ref (a 0)) S kX3 rfl I 0 0 rfl (by decide) (by decide +kernel) rfl dX3_someForthDoes_47 ?_
          refine lv_iload_n S.1 S.2.1 dX3_someForthDoes_50 rfl (lv_at hl 3 rfl) ?_
          obtain ⟨hi13, hf⟩ := x_ldE hf
          refine x_iald (f := (G8 0)) S I 1 0 rfl rfl hi13 dX3_someForthDoes_51 ?_
          refine lv_aload_n S.1 S.2.1 dX3_someForthDoes_52 rfl (lv_at hl 2 rfl) ?_
          refine x_get (C := RX3) (T := TX3) (N := 7) (ci := 2) (v := .ref (a 0)) S kX3 rfl I 0 0 rfl (by decide) (by decide +kernel) rfl dX3_someForthDoes_53 ?_
          refine lv_iload_n S.1 S.2.1 dX3_someForthDoes_56 rfl (lv_at hl 4 rfl) ?_
          obtain ⟨hi14, hf⟩ := x_ldE hf
          refine x_iald (f := (G8 0)) S I 1 0 rfl rfl hi14 dX3_someForthDoes_57 ?_
          obtain ⟨g16, hg15, hf⟩ := x_b1E hf
          refine x_cS (As := [.ref (a 4), .int ((G8 0) p1.toNatClampNeg), .int ((G8 0) p2.toNatClampNeg)]) (rest := []) (st' := []) (ws' := (wX3 cI cC cZ h a F (va_up G8 4 g16))) S I (tX3_advance l D cI cC cZ (a 4) 4 (G8 4) ((G8 0) p1.toNatClampNeg) ((G8 0) p2.toNatClampNeg) g16 hg15) (va_cwS 3 S.2.2.2.2 gX3_someForthDoes_X3_advance rfl rfl rfl (by decide +kernel) ⟨Nat.le_of_ble_eq_true rfl, Nat.le_of_ble_eq_true rfl⟩) [5] [0, 1, 2, 3, 4, 6] [0, 1, 2, 3, 4, 6, 5] rfl rfl rfl rfl (by decide) rfl rfl rfl hl rfl (Nat.le_of_ble_eq_true rfl) ⟨Nat.zero_le _, Nat.zero_le _⟩ rfl dX3_someForthDoes_58 (fun H locs I => ?_)
          refine lv_iinc (v := (v7 + 1)) (lv' := [(4, .int (v7 + 1)), (3, .int r6), (0, .ref h), (1, .int p1), (2, .int p2)]) S.1 S.2.1 dX3_someForthDoes_61 hl (k := 0) rfl rfl (by decide) rfl (fun ls hl => ?_)
          refine lv_goto (tgt := 26) S.1 S.2.1 dX3_someForthDoes_64 (by decide) ?_
          exact ih26 (v7 + 1) (va_up G8 4 g16) _ _ _ hf I (lv_sub hl [0, 1, 2, 3, 4] rfl)
        · replace hf := x_ifF hf c12
          refine lv_iconst (v := 1) S.1 S.2.1 dX3_someForthDoes_40 (by decide) ?_
          exact x_ri E rfl x_n1 hf rfl I rfl dX3_someForthDoes_41
  exact hl26 4096 0 (va_up G 4 g2) _ _ _ hf I (lv_sub hl [0, 1, 2, 3, 4] rfl)
set_option maxHeartbeats 4000000 in
set_option maxRecDepth 100000 in
theorem tX3_lowestForth (l : Launch) (D : va_G) (cI cC cZ : ClassId) (h : Nat) (a : Nat → Nat) (F : xF) (G : xG) (p1 p2 p3 : Int32) (res : Int32) (hf : fX3_lowestForth G p1 p2 p3 = some res) : xC l yX3_lowestForth wsX3_lowestForth rmX3_lowestForth D [.ref h, .int p1, .int p2, .int p3] (wX3 cI cC cZ h a F G) (fun _ => (wX3 cI cC cZ h a F G)) (xT cI cC cZ) (fun t => some (.int t)) res := by
  have kX3 : ∀ w ∈ u_ws RX3 TX3 7, w ∈ wsX3_lowestForth := by decide +kernel
  refine x_of (cc := cX3_lowestForth) (maxL := 5) (ret := (some .int)) (by decide) rfl (Nat.le_of_ble_eq_true rfl) ?_
  intro p e s m args below meth c A Q ls S I E hl
  replace hl : lv_has ls 5 [(0, .ref h), (1, .int p1), (2, .int p2), (3, .int p3)] := hl
  replace hf := (fX3_lowestForth_e _ _ _ _).symm.trans hf
  refine lv_iconst (v := 0) S.1 S.2.1 dX3_lowestForth_0 (by decide) ?_
  refine lv_istore (lv' := [(4, .int 0), (0, .ref h), (1, .int p1), (2, .int p2), (3, .int p3)]) S.1 S.2.1 dX3_lowestForth_1 hl (by decide) rfl (fun ls hl => ?_)
  have hl3 : ∀ (n3 : Nat), ∀ (v1 : Int32) (H : Heap) (locs : List Loc) (ls : Array Slot), (fX3_lowestForth_l3 G p2 p1 p3 n3) v1 = some res → xI D A s (wX3 cI cC cZ h a F G) (xT cI cC cZ) H locs → lv_has ls 5 [(4, .int v1), (0, .ref h), (1, .int p1), (2, .int p2), (3, .int p3)] → W p l e (headSpec wsX3_lowestForth rmX3_lowestForth).room s m args below meth c H locs 0 0 Q (F0 m 3 ls []) := by
    intro n3
    induction n3 with
    | zero =>
      intro v1 H locs ls hf I hl
      cases (fX3_lowestForth_l3_z _ _ _ _ _).symm.trans hf
    | succ n3 ih3 =>
      intro v1 H locs ls hf I hl
      replace hf := (fX3_lowestForth_l3_e _ _ _ _ _ _).symm.trans hf
      refine lv_iload S.1 S.2.1 dX3_lowestForth_3 (lv_at hl 0 rfl) ?_
      refine lv_aload_n S.1 S.2.1 dX3_lowestForth_5 rfl (lv_at hl 1 rfl) ?_
      refine x_get (C := RX3) (T := TX3) (N := 7) (ci := 2) (v := .ref (a 0)) S kX3 rfl I 0 0 rfl (by decide) (by decide +kernel) rfl dX3_lowestForth_6 ?_
      refine lv_iload_n S.1 S.2.1 dX3_lowestForth_9 rfl (lv_at hl 3 rfl) ?_
      obtain ⟨hi2, hf⟩ := x_ldE hf
      refine x_iald (f := (G 0)) S I 1 0 rfl rfl hi2 dX3_lowestForth_10 ?_
      refine lv_icmp_ge (tgt := 34) S.1 S.2.1 dX3_lowestForth_11 (by decide) (fun c3 => ?_) (fun c3 => ?_)
      · replace hf := x_ifT hf c3
        refine lv_iconst (v := (-1)) S.1 S.2.1 dX3_lowestForth_34 (by decide) ?_
        exact x_ri E rfl rfl hf rfl I rfl dX3_lowestForth_35
      · replace hf := x_ifF hf c3
        refine lv_aload_n S.1 S.2.1 dX3_lowestForth_14 rfl (lv_at hl 1 rfl) ?_
        refine lv_iload_n S.1 S.2.1 dX3_lowestForth_15 rfl (lv_at hl 2 rfl) ?_
        refine lv_iload_n S.1 S.2.1 dX3_lowestForth_16 rfl (lv_at hl 4 rfl) ?_
        refine lv_iload S.1 S.2.1 dX3_lowestForth_17 (lv_at hl 0 rfl) ?_
        obtain ⟨r5, hg4, hf⟩ := x_b1E hf
        refine x_cA (As := [.int p1, .int p3, .int v1]) (rest := []) (st' := [.int r5]) (ws' := (wX3 cI cC cZ h a F G)) S I (tX3_isSolvedBack l D cI cC cZ h a F G p1 p3 v1 r5 hg4) (cwV 3 S.2.2.2.2 gX3_lowestForth_X3_isSolvedBack rfl rfl rfl (by decide +kernel) ⟨Nat.le_of_ble_eq_true rfl, Nat.le_of_ble_eq_true rfl⟩) 0 2 rfl rfl rfl rfl hl rfl (Nat.le_of_ble_eq_true rfl) ⟨Nat.zero_le _, Nat.zero_le _⟩ rfl dX3_lowestForth_19 (fun H locs I => ?_)
        refine lv_if_eq (tgt := 28) S.1 S.2.1 dX3_lowestForth_22 (by decide) (fun c6 => ?_) (fun c6 => ?_)
        · replace hf := x_ifT hf c6
          refine lv_iinc (v := (v1 + 1)) (lv' := [(4, .int (v1 + 1)), (0, .ref h), (1, .int p1), (2, .int p2), (3, .int p3)]) S.1 S.2.1 dX3_lowestForth_28 hl (k := 0) rfl rfl (by decide) rfl (fun ls hl => ?_)
          refine lv_goto (tgt := 3) S.1 S.2.1 dX3_lowestForth_31 (by decide) ?_
          exact ih3 (v1 + 1) _ _ _ hf I (lv_sub hl [0, 1, 2, 3, 4] rfl)
        · replace hf := x_ifF hf c6
          refine lv_iload S.1 S.2.1 dX3_lowestForth_25 (lv_at hl 0 rfl) ?_
          exact x_ri E rfl rfl hf rfl I rfl dX3_lowestForth_27
  exact hl3 4096 0 _ _ _ hf I (lv_sub hl [0, 1, 2, 3, 4] rfl)
set_option maxHeartbeats 4000000 in
set_option maxRecDepth 100000 in
theorem tX3_hasForth (l : Launch) (D : va_G) (cI cC cZ : ClassId) (h : Nat) (a : Nat → Nat) (F : xF) (G : xG) (p1 p2 : Int32) (res : Int32) (hf : fX3_hasForth G p1 p2 = some res) : xC l yX3_hasForth wsX3_hasForth rmX3_hasForth D [.ref h, .int p1, .int p2] (wX3 cI cC cZ h a F G) (fun _ => (wX3 cI cC cZ h a F G)) (xT cI cC cZ) (fun t => some (.int t)) res := by
  have kX3 : ∀ w ∈ u_ws RX3 TX3 7, w ∈ wsX3_hasForth := by decide +kernel
  refine x_of (cc := cX3_hasForth) (maxL := 4) (ret := (some .boolean)) (by decide) rfl (Nat.le_of_ble_eq_true rfl) ?_
  intro p e s m args below meth c A Q ls S I E hl
  replace hl : lv_has ls 4 [(0, .ref h), (1, .int p1), (2, .int p2)] := hl
  replace hf := (fX3_hasForth_e _ _ _).symm.trans hf
  refine lv_iconst (v := 0) S.1 S.2.1 dX3_hasForth_0 (by decide) ?_
  refine lv_istore_n (lv' := [(3, .int 0), (0, .ref h), (1, .int p1), (2, .int p2)]) S.1 S.2.1 dX3_hasForth_1 rfl hl (by decide) rfl (fun ls hl => ?_)
  have hl2 : ∀ (n2 : Nat), ∀ (v1 : Int32) (H : Heap) (locs : List Loc) (ls : Array Slot), (fX3_hasForth_l2 G p1 p2 n2) v1 = some res → xI D A s (wX3 cI cC cZ h a F G) (xT cI cC cZ) H locs → lv_has ls 4 [(3, .int v1), (0, .ref h), (1, .int p1), (2, .int p2)] → W p l e (headSpec wsX3_hasForth rmX3_hasForth).room s m args below meth c H locs 0 0 Q (F0 m 2 ls []) := by
    intro n2
    induction n2 with
    | zero =>
      intro v1 H locs ls hf I hl
      cases (fX3_hasForth_l2_z _ _ _ _).symm.trans hf
    | succ n2 ih2 =>
      intro v1 H locs ls hf I hl
      replace hf := (fX3_hasForth_l2_e _ _ _ _ _).symm.trans hf
      refine lv_iload_n S.1 S.2.1 dX3_hasForth_2 rfl (lv_at hl 0 rfl) ?_
      refine lv_aload_n S.1 S.2.1 dX3_hasForth_3 rfl (lv_at hl 1 rfl) ?_
      refine x_get (C := RX3) (T := TX3) (N := 7) (ci := 2) (v := .ref (a 0)) S kX3 rfl I 0 0 rfl (by decide) (by decide +kernel) rfl dX3_hasForth_4 ?_
      refine lv_iload_n S.1 S.2.1 dX3_hasForth_7 rfl (lv_at hl 2 rfl) ?_
      obtain ⟨hi2, hf⟩ := x_ldE hf
      refine x_iald (f := (G 0)) S I 1 0 rfl rfl hi2 dX3_hasForth_8 ?_
      refine lv_icmp_ge (tgt := 31) S.1 S.2.1 dX3_hasForth_9 (by decide) (fun c3 => ?_) (fun c3 => ?_)
      · replace hf := x_ifT hf c3
        refine lv_iconst (v := 1) S.1 S.2.1 dX3_hasForth_31 (by decide) ?_
        exact x_ri E rfl x_n1 hf rfl I rfl dX3_hasForth_32
      · replace hf := x_ifF hf c3
        refine lv_aload_n S.1 S.2.1 dX3_hasForth_12 rfl (lv_at hl 1 rfl) ?_
        refine lv_iload_n S.1 S.2.1 dX3_hasForth_13 rfl (lv_at hl 2 rfl) ?_
        refine lv_iload_n S.1 S.2.1 dX3_hasForth_14 rfl (lv_at hl 3 rfl) ?_
        refine lv_iload_n S.1 S.2.1 dX3_hasForth_15 rfl (lv_at hl 0 rfl) ?_
        obtain ⟨r5, hg4, hf⟩ := x_b1E hf
        refine x_cA (As := [.int p1, .int p2, .int v1]) (rest := []) (st' := [.int r5]) (ws' := (wX3 cI cC cZ h a F G)) S I (tX3_lowestForth l D cI cC cZ h a F G p1 p2 v1 r5 hg4) (cwV 3 S.2.2.2.2 gX3_hasForth_X3_lowestForth rfl rfl rfl (by decide +kernel) ⟨Nat.le_of_ble_eq_true rfl, Nat.le_of_ble_eq_true rfl⟩) 0 2 rfl rfl rfl rfl hl rfl (Nat.le_of_ble_eq_true rfl) ⟨Nat.zero_le _, Nat.zero_le _⟩ rfl dX3_hasForth_16 (fun H locs I => ?_)
        refine lv_iconst (v := (-1)) S.1 S.2.1 dX3_hasForth_19 (by decide) ?_
        refine lv_icmp_ne (tgt := 25) S.1 S.2.1 dX3_hasForth_20 (by decide) (fun c6 => ?_) (fun c6 => ?_)
        · replace hf := x_ifF hf c6
          refine lv_iinc (v := (v1 + 1)) (lv' := [(3, .int (v1 + 1)), (0, .ref h), (1, .int p1), (2, .int p2)]) S.1 S.2.1 dX3_hasForth_25 hl (k := 0) rfl rfl (by decide) rfl (fun ls hl => ?_)
          refine lv_goto (tgt := 2) S.1 S.2.1 dX3_hasForth_28 (by decide) ?_
          exact ih2 (v1 + 1) _ _ _ hf I (lv_sub hl [0, 1, 2, 3] rfl)
        · replace hf := x_ifT hf c6
          refine lv_iconst (v := 0) S.1 S.2.1 dX3_hasForth_23 (by decide) ?_
          exact x_ri E rfl x_n0 hf rfl I rfl dX3_hasForth_24
  exact hl2 4096 0 _ _ _ hf I (lv_sub hl [0, 1, 2, 3] rfl)
set_option maxHeartbeats 4000000 in
set_option maxRecDepth 100000 in
theorem tX3_lowestCode (l : Launch) (D : va_G) (cI cC cZ : ClassId) (h : Nat) (a : Nat → Nat) (F : xF) (G : xG) (p1 p2 p3 : Int32) (res : Int32 × xG) (hf : fX3_lowestCode G p1 p2 p3 = some res) : xC l yX3_lowestCode wsX3_lowestCode rmX3_lowestCode D [.ref h, .int p1, .int p2, .int p3] (wX3 cI cC cZ h a F G) (fun t => (wX3 cI cC cZ h a F t.2)) (xT cI cC cZ) (fun t => some (.int t.1)) res := by
  have kX3 : ∀ w ∈ u_ws RX3 TX3 7, w ∈ wsX3_lowestCode := by decide +kernel
  refine x_of (cc := cX3_lowestCode) (maxL := 6) (ret := (some .int)) (by decide) rfl (Nat.le_of_ble_eq_true rfl) ?_
  intro p e s m args below meth c A Q ls S I E hl
  replace hl : lv_has ls 6 [(0, .ref h), (1, .int p1), (2, .int p2), (3, .int p3)] := hl
  replace hf := (fX3_lowestCode_e _ _ _ _).symm.trans hf
  refine lv_aload_n S.1 S.2.1 dX3_lowestCode_0 rfl (lv_at hl 0 rfl) ?_
  refine x_get (C := RX3) (T := TX3) (N := 7) (ci := 2) (v := .ref (a 3)) S kX3 rfl I 0 3 rfl (by decide) (by decide +kernel) rfl dX3_lowestCode_1 ?_
  obtain ⟨g2, hg1, hf⟩ := x_b1E hf
  refine x_cS (As := [.ref (a 3)]) (rest := []) (st' := []) (ws' := (wX3 cI cC cZ h a F (va_up G 3 g2))) S I (tX3_clear l D cI cC cZ (a 3) 4 (G 3)  g2 hg1) (va_cwS 1 S.2.2.2.2 gX3_lowestCode_X3_clear rfl rfl rfl (by decide +kernel) ⟨Nat.le_of_ble_eq_true rfl, Nat.le_of_ble_eq_true rfl⟩) [4] [0, 1, 2, 3, 5, 6] [0, 1, 2, 3, 6, 4, 5] rfl rfl rfl rfl (by decide) rfl rfl rfl hl rfl (Nat.le_of_ble_eq_true rfl) ⟨Nat.zero_le _, Nat.zero_le _⟩ rfl dX3_lowestCode_4 (fun H locs I => ?_)
  refine lv_aload_n S.1 S.2.1 dX3_lowestCode_7 rfl (lv_at hl 0 rfl) ?_
  refine x_get (C := RX3) (T := TX3) (N := 7) (ci := 2) (v := .ref (a 1)) S kX3 rfl I 0 1 rfl (by decide) (by decide +kernel) rfl dX3_lowestCode_8 ?_
  refine lv_iload_n S.1 S.2.1 dX3_lowestCode_11 rfl (lv_at hl 1 rfl) ?_
  obtain ⟨hi3, hf⟩ := x_ldE hf
  refine x_iald (f := (G 1)) S I 2 0 rfl rfl hi3 dX3_lowestCode_12 ?_
  refine lv_aload_n S.1 S.2.1 dX3_lowestCode_13 rfl (lv_at hl 0 rfl) ?_
  refine x_get (C := RX3) (T := TX3) (N := 7) (ci := 2) (v := .ref (a 1)) S kX3 rfl I 0 1 rfl (by decide) (by decide +kernel) rfl dX3_lowestCode_14 ?_
  refine lv_iload_n S.1 S.2.1 dX3_lowestCode_17 rfl (lv_at hl 2 rfl) ?_
  obtain ⟨hi4, hf⟩ := x_ldE hf
  refine x_iald (f := (G 1)) S I 2 0 rfl rfl hi4 dX3_lowestCode_18 ?_
  obtain ⟨r6, hg5, hf⟩ := x_b1E hf
  refine x_c0 (As := [.int ((G 1) p1.toNatClampNeg), .int ((G 1) p2.toNatClampNeg)]) (rest := []) (st' := [.int r6]) S I rfl (tX3_power l D cI cC cZ ((G 1) p1.toNatClampNeg) ((G 1) p2.toNatClampNeg) r6 hg5) (va_cwS 2 S.2.2.2.2 gX3_lowestCode_X3_power rfl rfl rfl (by decide +kernel) ⟨Nat.le_of_ble_eq_true rfl, Nat.le_of_ble_eq_true rfl⟩) hl rfl (Nat.le_of_ble_eq_true rfl) ⟨Nat.zero_le _, Nat.zero_le _⟩ rfl dX3_lowestCode_19 (fun H locs I => ?_)
  refine lv_istore (lv' := [(4, .int r6), (0, .ref h), (1, .int p1), (2, .int p2), (3, .int p3)]) S.1 S.2.1 dX3_lowestCode_22 hl (by decide) rfl (fun ls hl => ?_)
  refine lv_iconst (v := 0) S.1 S.2.1 dX3_lowestCode_24 (by decide) ?_
  refine lv_istore (lv' := [(5, .int 0), (4, .int r6), (0, .ref h), (1, .int p1), (2, .int p2), (3, .int p3)]) S.1 S.2.1 dX3_lowestCode_25 hl (by decide) rfl (fun ls hl => ?_)
  have hl27 : ∀ (n27 : Nat), ∀ (v7 : Int32) (G8 : xG) (H : Heap) (locs : List Loc) (ls : Array Slot), (fX3_lowestCode_l27 r6 p2 p3 p1 n27) v7 G8 = some res → xI D A s (wX3 cI cC cZ h a F G8) (xT cI cC cZ) H locs → lv_has ls 6 [(5, .int v7), (4, .int r6), (0, .ref h), (1, .int p1), (2, .int p2), (3, .int p3)] → W p l e (headSpec wsX3_lowestCode rmX3_lowestCode).room s m args below meth c H locs 0 0 Q (F0 m 27 ls []) := by
    intro n27
    induction n27 with
    | zero =>
      intro v7 G8 H locs ls hf I hl
      cases (fX3_lowestCode_l27_z _ _ _ _ _ _).symm.trans hf
    | succ n27 ih27 =>
      intro v7 G8 H locs ls hf I hl
      replace hf := (fX3_lowestCode_l27_e _ _ _ _ _ _ _).symm.trans hf
      refine lv_iload S.1 S.2.1 dX3_lowestCode_27 (lv_at hl 0 rfl) ?_
      refine lv_iload S.1 S.2.1 dX3_lowestCode_29 (lv_at hl 1 rfl) ?_
      refine lv_icmp_ge (tgt := 92) S.1 S.2.1 dX3_lowestCode_31 (by decide) (fun c9 => ?_) (fun c9 => ?_)
      · replace hf := x_ifT hf c9
        refine lv_iconst (v := (-1)) S.1 S.2.1 dX3_lowestCode_92 (by decide) ?_
        exact x_ri E rfl rfl hf rfl I rfl dX3_lowestCode_93
      · replace hf := x_ifF hf c9
        refine lv_aload_n S.1 S.2.1 dX3_lowestCode_34 rfl (lv_at hl 2 rfl) ?_
        refine lv_iload_n S.1 S.2.1 dX3_lowestCode_35 rfl (lv_at hl 4 rfl) ?_
        obtain ⟨G11, hg10, hf⟩ := x_b1E hf
        refine x_cA (As := [.int p2]) (rest := []) (st' := []) (ws' := (wX3 cI cC cZ h a F G11)) S I (tX3_give l D cI cC cZ h a F G8 p2 G11 hg10) (cwV 1 S.2.2.2.2 gX3_lowestCode_X3_give rfl rfl rfl (by decide +kernel) ⟨Nat.le_of_ble_eq_true rfl, Nat.le_of_ble_eq_true rfl⟩) 0 2 rfl rfl rfl rfl hl rfl (Nat.le_of_ble_eq_true rfl) ⟨Nat.zero_le _, Nat.zero_le _⟩ rfl dX3_lowestCode_36 (fun H locs I => ?_)
        refine lv_iload_n S.1 S.2.1 dX3_lowestCode_39 rfl (lv_at hl 5 rfl) ?_
        have hj67 : ∀ (G12 : xG) (H : Heap) (locs : List Loc) (ls : Array Slot), (fX3_lowestCode_j67 (fX3_lowestCode_l27 r6 p2 p3 p1 n27) p2 p1 v7) G12 = some res → xI D A s (wX3 cI cC cZ h a F G12) (xT cI cC cZ) H locs → lv_has ls 6 [(5, .int v7), (4, .int r6), (0, .ref h), (1, .int p1), (2, .int p2), (3, .int p3)] → W p l e (headSpec wsX3_lowestCode rmX3_lowestCode).room s m args below meth c H locs 0 0 Q (F0 m 67 ls []) := by
          intro G12 H locs ls hf I hl
          replace hf := (fX3_lowestCode_j67_e _ _ _ _ _).symm.trans hf
          refine lv_aload_n S.1 S.2.1 dX3_lowestCode_67 rfl (lv_at hl 2 rfl) ?_
          refine x_get (C := RX3) (T := TX3) (N := 7) (ci := 2) (v := .ref (a 3)) S kX3 rfl I 0 3 rfl (by decide) (by decide +kernel) rfl dX3_lowestCode_68 ?_
          refine lv_aload_n S.1 S.2.1 dX3_lowestCode_71 rfl (lv_at hl 2 rfl) ?_
          refine x_get (C := RX3) (T := TX3) (N := 7) (ci := 2) (v := .ref (a 1)) S kX3 rfl I 0 1 rfl (by decide) (by decide +kernel) rfl dX3_lowestCode_72 ?_
          refine lv_iload_n S.1 S.2.1 dX3_lowestCode_75 rfl (lv_at hl 4 rfl) ?_
          obtain ⟨hi13, hf⟩ := x_ldE hf
          refine x_iald (f := (G12 1)) S I 2 0 rfl rfl hi13 dX3_lowestCode_76 ?_
          refine lv_aload_n S.1 S.2.1 dX3_lowestCode_77 rfl (lv_at hl 2 rfl) ?_
          refine x_get (C := RX3) (T := TX3) (N := 7) (ci := 2) (v := .ref (a 1)) S kX3 rfl I 0 1 rfl (by decide) (by decide +kernel) rfl dX3_lowestCode_78 ?_
          refine lv_iload_n S.1 S.2.1 dX3_lowestCode_81 rfl (lv_at hl 3 rfl) ?_
          obtain ⟨hi14, hf⟩ := x_ldE hf
          refine x_iald (f := (G12 1)) S I 2 0 rfl rfl hi14 dX3_lowestCode_82 ?_
          obtain ⟨g16, hg15, hf⟩ := x_b1E hf
          refine x_cS (As := [.ref (a 3), .int ((G12 1) p2.toNatClampNeg), .int ((G12 1) p1.toNatClampNeg)]) (rest := []) (st' := []) (ws' := (wX3 cI cC cZ h a F (va_up G12 3 g16))) S I (tX3_advance l D cI cC cZ (a 3) 4 (G12 3) ((G12 1) p2.toNatClampNeg) ((G12 1) p1.toNatClampNeg) g16 hg15) (va_cwS 3 S.2.2.2.2 gX3_lowestCode_X3_advance rfl rfl rfl (by decide +kernel) ⟨Nat.le_of_ble_eq_true rfl, Nat.le_of_ble_eq_true rfl⟩) [4] [0, 1, 2, 3, 5, 6] [0, 1, 2, 3, 6, 4, 5] rfl rfl rfl rfl (by decide) rfl rfl rfl hl rfl (Nat.le_of_ble_eq_true rfl) ⟨Nat.zero_le _, Nat.zero_le _⟩ rfl dX3_lowestCode_83 (fun H locs I => ?_)
          refine lv_iinc (v := (v7 + 1)) (lv' := [(5, .int (v7 + 1)), (4, .int r6), (0, .ref h), (1, .int p1), (2, .int p2), (3, .int p3)]) S.1 S.2.1 dX3_lowestCode_86 hl (k := 0) rfl rfl (by decide) rfl (fun ls hl => ?_)
          refine lv_goto (tgt := 27) S.1 S.2.1 dX3_lowestCode_89 (by decide) ?_
          exact ih27 (v7 + 1) (va_up G12 3 g16) _ _ _ hf I (lv_sub hl [0, 1, 2, 3, 4, 5] rfl)
        refine lv_if_eq (tgt := 55) S.1 S.2.1 dX3_lowestCode_40 (by decide) (fun c17 => ?_) (fun c17 => ?_)
        · replace hf := x_ifT hf c17
          refine lv_aload_n S.1 S.2.1 dX3_lowestCode_55 rfl (lv_at hl 2 rfl) ?_
          refine lv_iload_n S.1 S.2.1 dX3_lowestCode_56 rfl (lv_at hl 3 rfl) ?_
          refine lv_iload_n S.1 S.2.1 dX3_lowestCode_57 rfl (lv_at hl 4 rfl) ?_
          obtain ⟨r19, hg18, hf⟩ := x_b1E hf
          refine x_cA (As := [.int p1, .int p2]) (rest := []) (st' := [.int r19]) (ws' := (wX3 cI cC cZ h a F G11)) S I (tX3_hasForth l D cI cC cZ h a F G11 p1 p2 r19 hg18) (cwV 2 S.2.2.2.2 gX3_lowestCode_X3_hasForth rfl rfl rfl (by decide +kernel) ⟨Nat.le_of_ble_eq_true rfl, Nat.le_of_ble_eq_true rfl⟩) 0 2 rfl rfl rfl rfl hl rfl (Nat.le_of_ble_eq_true rfl) ⟨Nat.zero_le _, Nat.zero_le _⟩ rfl dX3_lowestCode_58 (fun H locs I => ?_)
          refine lv_if_eq (tgt := 67) S.1 S.2.1 dX3_lowestCode_61 (by decide) (fun c20 => ?_) (fun c20 => ?_)
          · replace hf := x_ifT hf c20
            exact hj67 G11 _ _ _ hf I (lv_sub hl [0, 1, 2, 3, 4, 5] rfl)
          · replace hf := x_ifF hf c20
            refine lv_iload S.1 S.2.1 dX3_lowestCode_64 (lv_at hl 0 rfl) ?_
            exact x_ri E rfl rfl hf rfl I rfl dX3_lowestCode_66
        · replace hf := x_ifF hf c17
          refine lv_aload_n S.1 S.2.1 dX3_lowestCode_43 rfl (lv_at hl 2 rfl) ?_
          refine lv_iload_n S.1 S.2.1 dX3_lowestCode_44 rfl (lv_at hl 3 rfl) ?_
          refine lv_iload_n S.1 S.2.1 dX3_lowestCode_45 rfl (lv_at hl 4 rfl) ?_
          obtain ⟨r22, G23, hg21, hf⟩ := x_b2E hf
          refine x_cA (As := [.int p1, .int p2]) (rest := []) (st' := [.int r22]) (ws' := (wX3 cI cC cZ h a F G23)) S I (tX3_someForthDoes l D cI cC cZ h a F G11 p1 p2 (r22, G23) hg21) (cwV 2 S.2.2.2.2 gX3_lowestCode_X3_someForthDoes rfl rfl rfl (by decide +kernel) ⟨Nat.le_of_ble_eq_true rfl, Nat.le_of_ble_eq_true rfl⟩) 0 2 rfl rfl rfl rfl hl rfl (Nat.le_of_ble_eq_true rfl) ⟨Nat.zero_le _, Nat.zero_le _⟩ rfl dX3_lowestCode_46 (fun H locs I => ?_)
          refine lv_if_eq (tgt := 67) S.1 S.2.1 dX3_lowestCode_49 (by decide) (fun c24 => ?_) (fun c24 => ?_)
          · replace hf := x_ifT hf c24
            exact hj67 G23 _ _ _ hf I (lv_sub hl [0, 1, 2, 3, 4, 5] rfl)
          · replace hf := x_ifF hf c24
            refine lv_goto (tgt := 64) S.1 S.2.1 dX3_lowestCode_52 (by decide) ?_
            refine lv_iload S.1 S.2.1 dX3_lowestCode_64 (lv_at hl 0 rfl) ?_
            exact x_ri E rfl rfl hf rfl I rfl dX3_lowestCode_66
  exact hl27 4096 0 (va_up G 3 g2) _ _ _ hf I (lv_sub hl [0, 1, 2, 3, 4, 5] rfl)
set_option maxHeartbeats 4000000 in
set_option maxRecDepth 100000 in
theorem tX3_forthOf (l : Launch) (D : va_G) (cI cC cZ : ClassId) (h : Nat) (a : Nat → Nat) (F : xF) (G : xG) (p1 p2 p3 : Int32) (res : Int32 × xG) (hf : fX3_forthOf G p1 p2 p3 = some res) : xC l yX3_forthOf wsX3_forthOf rmX3_forthOf D [.ref h, .int p1, .int p2, .int p3] (wX3 cI cC cZ h a F G) (fun t => (wX3 cI cC cZ h a F t.2)) (xT cI cC cZ) (fun t => some (.int t.1)) res := by
  refine x_of (cc := cX3_forthOf) (maxL := 4) (ret := (some .int)) (by decide) rfl (Nat.le_of_ble_eq_true rfl) ?_
  intro p e s m args below meth c A Q ls S I E hl
  replace hl : lv_has ls 4 [(0, .ref h), (1, .int p1), (2, .int p2), (3, .int p3)] := hl
  replace hf := (fX3_forthOf_e _ _ _ _).symm.trans hf
  refine lv_aload_n S.1 S.2.1 dX3_forthOf_0 rfl (lv_at hl 0 rfl) ?_
  refine lv_iload_n S.1 S.2.1 dX3_forthOf_1 rfl (lv_at hl 1 rfl) ?_
  refine lv_iload_n S.1 S.2.1 dX3_forthOf_2 rfl (lv_at hl 2 rfl) ?_
  refine lv_iconst (v := 0) S.1 S.2.1 dX3_forthOf_3 (by decide) ?_
  obtain ⟨r2, G3, hg1, hf⟩ := x_b2E hf
  refine x_cA (As := [.int p1, .int p2, .int 0]) (rest := []) (st' := [.int r2]) (ws' := (wX3 cI cC cZ h a F G3)) S I (tX3_lowestCode l D cI cC cZ h a F G p1 p2 0 (r2, G3) hg1) (cwV 3 S.2.2.2.2 gX3_forthOf_X3_lowestCode rfl rfl rfl (by decide +kernel) ⟨Nat.le_of_ble_eq_true rfl, Nat.le_of_ble_eq_true rfl⟩) 0 2 rfl rfl rfl rfl hl rfl (Nat.le_of_ble_eq_true rfl) ⟨Nat.zero_le _, Nat.zero_le _⟩ rfl dX3_forthOf_4 (fun H locs I => ?_)
  refine lv_iconst (v := (-1)) S.1 S.2.1 dX3_forthOf_7 (by decide) ?_
  refine lv_icmp_ne (tgt := 13) S.1 S.2.1 dX3_forthOf_8 (by decide) (fun c4 => ?_) (fun c4 => ?_)
  · replace hf := x_ifF hf c4
    refine lv_aload_n S.1 S.2.1 dX3_forthOf_13 rfl (lv_at hl 0 rfl) ?_
    refine lv_iload_n S.1 S.2.1 dX3_forthOf_14 rfl (lv_at hl 1 rfl) ?_
    refine lv_iload_n S.1 S.2.1 dX3_forthOf_15 rfl (lv_at hl 2 rfl) ?_
    refine lv_iload_n S.1 S.2.1 dX3_forthOf_16 rfl (lv_at hl 3 rfl) ?_
    obtain ⟨r6, hg5, hf⟩ := x_b1E hf
    refine x_cA (As := [.int p1, .int p2, .int p3]) (rest := []) (st' := [.int r6]) (ws' := (wX3 cI cC cZ h a F G3)) S I (tX3_lowestForth l D cI cC cZ h a F G3 p1 p2 p3 r6 hg5) (cwV 3 S.2.2.2.2 gX3_forthOf_X3_lowestForth rfl rfl rfl (by decide +kernel) ⟨Nat.le_of_ble_eq_true rfl, Nat.le_of_ble_eq_true rfl⟩) 0 2 rfl rfl rfl rfl hl rfl (Nat.le_of_ble_eq_true rfl) ⟨Nat.zero_le _, Nat.zero_le _⟩ rfl dX3_forthOf_17 (fun H locs I => ?_)
    exact x_ri E rfl rfl hf rfl I rfl dX3_forthOf_20
  · replace hf := x_ifT hf c4
    refine lv_iconst (v := (-1)) S.1 S.2.1 dX3_forthOf_11 (by decide) ?_
    exact x_ri E rfl rfl hf rfl I rfl dX3_forthOf_12
set_option maxHeartbeats 4000000 in
set_option maxRecDepth 100000 in
theorem tX3_tell (l : Launch) (D : va_G) (cI cC cZ : ClassId) (h : Nat) (a : Nat → Nat) (F : xF) (G : xG) (p1 p2 : Int32) (res : Int32) (hf : fX3_tell G p1 p2 = some res) : xC l yX3_tell wsX3_tell rmX3_tell D [.ref h, .int p1, .int p2] (wX3 cI cC cZ h a F G) (fun _ => (wX3 cI cC cZ h a F G)) (xT cI cC cZ) (fun t => some (.int t)) res := by
  have kX3 : ∀ w ∈ u_ws RX3 TX3 7, w ∈ wsX3_tell := by decide +kernel
  refine x_of (cc := cX3_tell) (maxL := 3) (ret := (some .int)) (by decide) rfl (Nat.le_of_ble_eq_true rfl) ?_
  intro p e s m args below meth c A Q ls S I E hl
  replace hl : lv_has ls 3 [(0, .ref h), (1, .int p1), (2, .int p2)] := hl
  replace hf := (fX3_tell_e _ _ _).symm.trans hf
  refine lv_iload_n S.1 S.2.1 dX3_tell_0 rfl (lv_at hl 2 rfl) ?_
  by_cases c1 : p2 = 0
  · replace hf := x_ifT hf c1
    refine lv_lookup (off := 27) (tgt := 28) S.1 S.2.1 dX3_tell_1 (by decide) (by rw [c1]; rfl) (by decide) ?_
    refine lv_aload_n S.1 S.2.1 dX3_tell_28 rfl (lv_at hl 0 rfl) ?_
    refine x_get (C := RX3) (T := TX3) (N := 7) (ci := 2) (v := .ref (a 0)) S kX3 rfl I 0 0 rfl (by decide) (by decide +kernel) rfl dX3_tell_29 ?_
    refine lv_iload_n S.1 S.2.1 dX3_tell_32 rfl (lv_at hl 1 rfl) ?_
    obtain ⟨hi2, hf⟩ := x_ldE hf
    refine x_iald (f := (G 0)) S I 1 0 rfl rfl hi2 dX3_tell_33 ?_
    exact x_ri E rfl rfl hf rfl I rfl dX3_tell_34
  · replace hf := x_ifF hf c1
    by_cases c3 : p2 = 1
    · replace hf := x_ifT hf c3
      refine lv_lookup (off := 34) (tgt := 35) S.1 S.2.1 dX3_tell_1 (by decide) ((lv_osw c1 (by decide)).trans (by rw [c3]; rfl)) (by decide) ?_
      refine lv_aload_n S.1 S.2.1 dX3_tell_35 rfl (lv_at hl 0 rfl) ?_
      refine x_get (C := RX3) (T := TX3) (N := 7) (ci := 2) (v := .ref (a 1)) S kX3 rfl I 0 1 rfl (by decide) (by decide +kernel) rfl dX3_tell_36 ?_
      refine lv_iload_n S.1 S.2.1 dX3_tell_39 rfl (lv_at hl 1 rfl) ?_
      obtain ⟨hi4, hf⟩ := x_ldE hf
      refine x_iald (f := (G 1)) S I 2 0 rfl rfl hi4 dX3_tell_40 ?_
      exact x_ri E rfl rfl hf rfl I rfl dX3_tell_41
    · replace hf := x_ifF hf c3
      refine lv_lookup (off := 41) (tgt := 42) S.1 S.2.1 dX3_tell_1 (by decide) ((lv_osw c1 (by decide)).trans ((lv_osw c3 (by decide)).trans (rfl))) (by decide) ?_
      refine lv_aload_n S.1 S.2.1 dX3_tell_42 rfl (lv_at hl 0 rfl) ?_
      refine x_get (C := RX3) (T := TX3) (N := 7) (ci := 2) (v := .ref (a 2)) S kX3 rfl I 0 2 rfl (by decide) (by decide +kernel) rfl dX3_tell_43 ?_
      refine lv_iload_n S.1 S.2.1 dX3_tell_46 rfl (lv_at hl 1 rfl) ?_
      obtain ⟨hi5, hf⟩ := x_ldE hf
      refine x_iald (f := (G 2)) S I 3 0 rfl rfl hi5 dX3_tell_47 ?_
      exact x_ri E rfl rfl hf rfl I rfl dX3_tell_48
