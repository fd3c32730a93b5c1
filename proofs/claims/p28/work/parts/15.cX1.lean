set_option maxHeartbeats 4000000 in
set_option maxRecDepth 100000 in
theorem tX1_isInRange (l : Launch) (D : va_G) (cI cC cZ : ClassId) (p1 p2 : Int32) (res : Int32) (hf : fX1_isInRange p1 p2 = some res) : xC l yX1_isInRange wsX1_isInRange rmX1_isInRange D [.int p1, .int p2] [] (fun _ => []) (xT cI cC cZ) (fun t => some (.int t)) res := by
  refine x_of (cc := cX1_isInRange) (maxL := 2) (ret := (some .boolean)) (by decide) rfl (Nat.le_of_ble_eq_true rfl) ?_
  intro p e s m args below meth c A Q ls S I E hl
  replace hl : lv_has ls 2 [(0, .int p1), (1, .int p2)] := hl
  replace hf := (fX1_isInRange_e _ _).symm.trans hf
  refine lv_iconst (v := 1) S.1 S.2.1 dX1_isInRange_0 (by decide) ?_
  refine lv_iload_n S.1 S.2.1 dX1_isInRange_1 rfl (lv_at hl 0 rfl) ?_
  refine lv_iconst (v := 4) S.1 S.2.1 dX1_isInRange_2 (by decide) ?_
  obtain ⟨r2, hg1, hf⟩ := x_b1E hf
  refine x_c0N (host := "ReversalCourt") (n := 3) (As := [.int 1, .int p1, .int 4]) (rest := []) (st' := [.int r2]) S I rfl (tX5_isBetween l D cI cC cZ 1 p1 4 r2 hg1) gX1_isInRange_X5_isBetween_n9 rfl rfl rfl (by decide +kernel) (by decide +kernel) (by decide +kernel) (by decide +kernel) ⟨Nat.le_of_ble_eq_true rfl, Nat.le_of_ble_eq_true rfl⟩ hl rfl (Nat.le_of_ble_eq_true rfl) ⟨Nat.zero_le _, Nat.zero_le _⟩ rfl dX1_isInRange_3 (fun H locs I => ?_)
  refine lv_if_eq (tgt := 21) S.1 S.2.1 dX1_isInRange_6 (by decide) (fun c3 => ?_) (fun c3 => ?_)
  · replace hf := x_ifT hf c3
    refine lv_iconst (v := 0) S.1 S.2.1 dX1_isInRange_21 (by decide) ?_
    exact x_ri E rfl x_n0 hf rfl I rfl dX1_isInRange_22
  · replace hf := x_ifF hf c3
    refine lv_iload_n S.1 S.2.1 dX1_isInRange_9 rfl (lv_at hl 1 rfl) ?_
    refine lv_iconst (v := 1) S.1 S.2.1 dX1_isInRange_10 (by decide) ?_
    refine lv_iload_n S.1 S.2.1 dX1_isInRange_11 rfl (lv_at hl 0 rfl) ?_
    refine lv_ishl S.1 S.2.1 dX1_isInRange_12 ?_
    refine lv_iushr (v := (x_ush p2 (x_shl 1 p1))) S.1 S.2.1 dX1_isInRange_13 rfl ?_
    refine lv_if_ne (tgt := 21) S.1 S.2.1 dX1_isInRange_14 (by decide) (fun c4 => ?_) (fun c4 => ?_)
    · replace hf := x_ifF hf c4
      refine lv_iconst (v := 0) S.1 S.2.1 dX1_isInRange_21 (by decide) ?_
      exact x_ri E rfl x_n0 hf rfl I rfl dX1_isInRange_22
    · replace hf := x_ifT hf c4
      refine lv_iconst (v := 1) S.1 S.2.1 dX1_isInRange_17 (by decide) ?_
      refine lv_goto (tgt := 22) S.1 S.2.1 dX1_isInRange_18 (by decide) ?_
      exact x_ri E rfl x_n1 hf rfl I rfl dX1_isInRange_22
set_option maxHeartbeats 4000000 in
set_option maxRecDepth 100000 in
theorem tX1_isOfFirst (l : Launch) (D : va_G) (cI cC cZ : ClassId) (p1 : Int32) (res : Int32) (hf : fX1_isOfFirst p1 = some res) : xC l yX1_isOfFirst wsX1_isOfFirst rmX1_isOfFirst D [.int p1] [] (fun _ => []) (xT cI cC cZ) (fun t => some (.int t)) res := by
  refine x_of (cc := cX1_isOfFirst) (maxL := 1) (ret := (some .boolean)) (by decide) rfl (Nat.le_of_ble_eq_true rfl) ?_
  intro p e s m args below meth c A Q ls S I E hl
  replace hl : lv_has ls 1 [(0, .int p1)] := hl
  replace hf := (fX1_isOfFirst_e _).symm.trans hf
  refine lv_iload_n S.1 S.2.1 dX1_isOfFirst_0 rfl (lv_at hl 0 rfl) ?_
  refine lv_iconst (v := 1) S.1 S.2.1 dX1_isOfFirst_1 (by decide) ?_
  refine lv_iand S.1 S.2.1 dX1_isOfFirst_2 ?_
  refine lv_if_ne (tgt := 10) S.1 S.2.1 dX1_isOfFirst_3 (by decide) (fun c1 => ?_) (fun c1 => ?_)
  · replace hf := x_ifF hf c1
    refine lv_iconst (v := 0) S.1 S.2.1 dX1_isOfFirst_10 (by decide) ?_
    exact x_ri E rfl x_n0 hf rfl I rfl dX1_isOfFirst_11
  · replace hf := x_ifT hf c1
    refine lv_iconst (v := 1) S.1 S.2.1 dX1_isOfFirst_6 (by decide) ?_
    refine lv_goto (tgt := 11) S.1 S.2.1 dX1_isOfFirst_7 (by decide) ?_
    exact x_ri E rfl x_n1 hf rfl I rfl dX1_isOfFirst_11
set_option maxHeartbeats 4000000 in
set_option maxRecDepth 100000 in
theorem tX1_wonAhead (l : Launch) (D : va_G) (cI cC cZ : ClassId) (p1 p2 : Int32) (res : Int32) (hf : fX1_wonAhead p1 p2 = some res) : xC l yX1_wonAhead wsX1_wonAhead rmX1_wonAhead D [.int p1, .int p2] [] (fun _ => []) (xT cI cC cZ) (fun t => some (.int t)) res := by
  refine x_of (cc := cX1_wonAhead) (maxL := 6) (ret := (some .int)) (by decide) rfl (Nat.le_of_ble_eq_true rfl) ?_
  intro p e s m args below meth c A Q ls S I E hl
  replace hl : lv_has ls 6 [(0, .int p1), (1, .int p2)] := hl
  replace hf := (fX1_wonAhead_e _ _).symm.trans hf
  refine lv_iconst (v := 0) S.1 S.2.1 dX1_wonAhead_0 (by decide) ?_
  refine lv_istore_n (lv' := [(2, .int 0), (0, .int p1), (1, .int p2)]) S.1 S.2.1 dX1_wonAhead_1 rfl hl (by decide) rfl (fun ls hl => ?_)
  refine lv_iconst (v := 0) S.1 S.2.1 dX1_wonAhead_2 (by decide) ?_
  refine lv_istore_n (lv' := [(3, .int 0), (2, .int 0), (0, .int p1), (1, .int p2)]) S.1 S.2.1 dX1_wonAhead_3 rfl hl (by decide) rfl (fun ls hl => ?_)
  have hl4 : ∀ (n4 : Nat), ∀ (v1 : Int32) (v2 : Int32) (H : Heap) (locs : List Loc) (ls : Array Slot), (fX1_wonAhead_l4 p1 p2 n4) v1 v2 = some res → xI D A s [] (xT cI cC cZ) H locs → lv_has ls 6 [(3, .int v2), (2, .int v1), (0, .int p1), (1, .int p2)] → W p l e (headSpec wsX1_wonAhead rmX1_wonAhead).room s m args below meth c H locs 0 0 Q (F0 m 4 ls []) := by
    intro n4
    induction n4 with
    | zero =>
      intro v1 v2 H locs ls hf I hl
      cases (fX1_wonAhead_l4_z _ _ _ _).symm.trans hf
    | succ n4 ih4 =>
      intro v1 v2 H locs ls hf I hl
      replace hf := (fX1_wonAhead_l4_e _ _ _ _ _).symm.trans hf
      refine lv_iload_n S.1 S.2.1 dX1_wonAhead_4 rfl (lv_at hl 0 rfl) ?_
      refine lv_iconst (v := 1) S.1 S.2.1 dX1_wonAhead_5 (by decide) ?_
      refine lv_iload_n S.1 S.2.1 dX1_wonAhead_6 rfl (lv_at hl 2 rfl) ?_
      refine lv_ishl S.1 S.2.1 dX1_wonAhead_7 ?_
      refine lv_icmp_ge (tgt := 70) S.1 S.2.1 dX1_wonAhead_8 (by decide) (fun c3 => ?_) (fun c3 => ?_)
      · replace hf := x_ifT hf c3
        refine lv_iload_n S.1 S.2.1 dX1_wonAhead_70 rfl (lv_at hl 1 rfl) ?_
        exact x_ri E rfl rfl hf rfl I rfl dX1_wonAhead_71
      · replace hf := x_ifF hf c3
        refine lv_iload_n S.1 S.2.1 dX1_wonAhead_11 rfl (lv_at hl 3 rfl) ?_
        refine lv_iconst (v := 2) S.1 S.2.1 dX1_wonAhead_12 (by decide) ?_
        refine lv_iload_n S.1 S.2.1 dX1_wonAhead_13 rfl (lv_at hl 0 rfl) ?_
        refine lv_imul S.1 S.2.1 dX1_wonAhead_14 ?_
        refine lv_ishr S.1 S.2.1 dX1_wonAhead_15 ?_
        refine lv_iconst (v := 3) S.1 S.2.1 dX1_wonAhead_16 (by decide) ?_
        refine lv_iand S.1 S.2.1 dX1_wonAhead_17 ?_
        refine lv_istore (lv' := [(4, .int ((x_shr p2 (2 * v2)) &&& 3)), (3, .int v2), (2, .int v1), (0, .int p1), (1, .int p2)]) S.1 S.2.1 dX1_wonAhead_18 hl (by decide) rfl (fun ls hl => ?_)
        refine lv_iload_n S.1 S.2.1 dX1_wonAhead_20 rfl (lv_at hl 3 rfl) ?_
        obtain ⟨r5, hg4, hf⟩ := x_b1E hf
        refine x_c0 (As := [.int p1]) (rest := []) (st' := [.int r5]) S I rfl (tX1_isOfFirst l D cI cC cZ p1 r5 hg4) (va_cwS 1 S.2.2.2.2 gX1_wonAhead_X1_isOfFirst rfl rfl rfl (by decide +kernel) ⟨Nat.le_of_ble_eq_true rfl, Nat.le_of_ble_eq_true rfl⟩) hl rfl (Nat.le_of_ble_eq_true rfl) ⟨Nat.zero_le _, Nat.zero_le _⟩ rfl dX1_wonAhead_21 (fun H locs I => ?_)
        have hj51 : ∀ (v6 : Int32) (H : Heap) (locs : List Loc) (ls : Array Slot), (fX1_wonAhead_j51 (fX1_wonAhead_l4 p1 p2 n4) v2 v1) v6 = some res → xI D A s [] (xT cI cC cZ) H locs → lv_has ls 6 [(3, .int v2), (2, .int v1), (0, .int p1), (1, .int p2)] → W p l e (headSpec wsX1_wonAhead rmX1_wonAhead).room s m args below meth c H locs 0 0 Q (F0 m 51 ls [.int v6]) := by
          intro v6 H locs ls hf I hl
          replace hf := (fX1_wonAhead_j51_e _ _ _ _).symm.trans hf
          refine lv_istore (lv' := [(5, .int v6), (3, .int v2), (2, .int v1), (0, .int p1), (1, .int p2)]) S.1 S.2.1 dX1_wonAhead_51 hl (by decide) rfl (fun ls hl => ?_)
          refine lv_iload S.1 S.2.1 dX1_wonAhead_53 (lv_at hl 0 rfl) ?_
          have hj64 : ∀ (v7 : Int32) (H : Heap) (locs : List Loc) (ls : Array Slot), (fX1_wonAhead_j64 (fX1_wonAhead_l4 p1 p2 n4) v2) v7 = some res → xI D A s [] (xT cI cC cZ) H locs → lv_has ls 6 [(3, .int v2), (2, .int v7), (0, .int p1), (1, .int p2)] → W p l e (headSpec wsX1_wonAhead rmX1_wonAhead).room s m args below meth c H locs 0 0 Q (F0 m 64 ls []) := by
            intro v7 H locs ls hf I hl
            replace hf := (fX1_wonAhead_j64_e _ _ _).symm.trans hf
            refine lv_iinc (v := (v2 + 1)) (lv' := [(3, .int (v2 + 1)), (2, .int v7), (0, .int p1), (1, .int p2)]) S.1 S.2.1 dX1_wonAhead_64 hl (k := 0) rfl rfl (by decide) rfl (fun ls hl => ?_)
            refine lv_goto (tgt := 4) S.1 S.2.1 dX1_wonAhead_67 (by decide) ?_
            exact ih4 v7 (v2 + 1) _ _ _ hf I (lv_sub hl [0, 1, 2, 3] rfl)
          refine lv_if_eq (tgt := 64) S.1 S.2.1 dX1_wonAhead_55 (by decide) (fun c8 => ?_) (fun c8 => ?_)
          · replace hf := x_ifT hf c8
            exact hj64 v1 _ _ _ hf I (lv_sub hl [1, 2, 3, 4] rfl)
          · replace hf := x_ifF hf c8
            refine lv_iload_n S.1 S.2.1 dX1_wonAhead_58 rfl (lv_at hl 2 rfl) ?_
            refine lv_iconst (v := 1) S.1 S.2.1 dX1_wonAhead_59 (by decide) ?_
            refine lv_iload_n S.1 S.2.1 dX1_wonAhead_60 rfl (lv_at hl 1 rfl) ?_
            refine lv_ishl S.1 S.2.1 dX1_wonAhead_61 ?_
            refine lv_ior S.1 S.2.1 dX1_wonAhead_62 ?_
            refine lv_istore_n (lv' := [(2, .int (v1 ||| (x_shl 1 v2))), (5, .int v6), (3, .int v2), (0, .int p1), (1, .int p2)]) S.1 S.2.1 dX1_wonAhead_63 rfl hl (by decide) rfl (fun ls hl => ?_)
            exact hj64 (v1 ||| (x_shl 1 v2)) _ _ _ hf I (lv_sub hl [2, 0, 3, 4] rfl)
        refine lv_if_eq (tgt := 40) S.1 S.2.1 dX1_wonAhead_24 (by decide) (fun c9 => ?_) (fun c9 => ?_)
        · replace hf := x_ifT hf c9
          refine lv_iload S.1 S.2.1 dX1_wonAhead_40 (lv_at hl 0 rfl) ?_
          refine lv_iconst (v := 3) S.1 S.2.1 dX1_wonAhead_42 (by decide) ?_
          refine lv_icmp_ne (tgt := 50) S.1 S.2.1 dX1_wonAhead_43 (by decide) (fun c10 => ?_) (fun c10 => ?_)
          · replace hf := x_ifF hf c10
            refine lv_iconst (v := 0) S.1 S.2.1 dX1_wonAhead_50 (by decide) ?_
            exact hj51 0 _ _ _ hf I (lv_sub hl [1, 2, 3, 4] rfl)
          · replace hf := x_ifT hf c10
            refine lv_iconst (v := 1) S.1 S.2.1 dX1_wonAhead_46 (by decide) ?_
            refine lv_goto (tgt := 51) S.1 S.2.1 dX1_wonAhead_47 (by decide) ?_
            exact hj51 1 _ _ _ hf I (lv_sub hl [1, 2, 3, 4] rfl)
        · replace hf := x_ifF hf c9
          refine lv_iload S.1 S.2.1 dX1_wonAhead_27 (lv_at hl 0 rfl) ?_
          refine lv_if_eq (tgt := 36) S.1 S.2.1 dX1_wonAhead_29 (by decide) (fun c11 => ?_) (fun c11 => ?_)
          · replace hf := x_ifT hf c11
            refine lv_iconst (v := 0) S.1 S.2.1 dX1_wonAhead_36 (by decide) ?_
            refine lv_goto (tgt := 51) S.1 S.2.1 dX1_wonAhead_37 (by decide) ?_
            exact hj51 0 _ _ _ hf I (lv_sub hl [1, 2, 3, 4] rfl)
          · replace hf := x_ifF hf c11
            refine lv_iconst (v := 1) S.1 S.2.1 dX1_wonAhead_32 (by decide) ?_
            refine lv_goto (tgt := 51) S.1 S.2.1 dX1_wonAhead_33 (by decide) ?_
            exact hj51 1 _ _ _ hf I (lv_sub hl [1, 2, 3, 4] rfl)
  exact hl4 4096 0 0 _ _ _ hf I (lv_sub hl [0, 1, 2, 3] rfl)
set_option maxHeartbeats 4000000 in
set_option maxRecDepth 100000 in
theorem tX1_isWonBackwards (l : Launch) (D : va_G) (cI cC cZ : ClassId) (p1 p2 : Int32) (res : Int32) (hf : fX1_isWonBackwards p1 p2 = some res) : xC l yX1_isWonBackwards wsX1_isWonBackwards rmX1_isWonBackwards D [.int p1, .int p2] [] (fun _ => []) (xT cI cC cZ) (fun t => some (.int t)) res := by
  refine x_of (cc := cX1_isWonBackwards) (maxL := 4) (ret := (some .boolean)) (by decide) rfl (Nat.le_of_ble_eq_true rfl) ?_
  intro p e s m args below meth c A Q ls S I E hl
  replace hl : lv_has ls 4 [(0, .int p1), (1, .int p2)] := hl
  replace hf := (fX1_isWonBackwards_e _ _).symm.trans hf
  refine lv_iload_n S.1 S.2.1 dX1_isWonBackwards_0 rfl (lv_at hl 1 rfl) ?_
  refine lv_istore_n (lv' := [(2, .int p2), (0, .int p1), (1, .int p2)]) S.1 S.2.1 dX1_isWonBackwards_1 rfl hl (by decide) rfl (fun ls hl => ?_)
  refine lv_iload_n S.1 S.2.1 dX1_isWonBackwards_2 rfl (lv_at hl 1 rfl) ?_
  refine lv_iconst (v := 1) S.1 S.2.1 dX1_isWonBackwards_3 (by decide) ?_
  refine lv_isub S.1 S.2.1 dX1_isWonBackwards_4 ?_
  refine lv_istore_n (lv' := [(3, .int (p1 - 1)), (2, .int p2), (0, .int p1), (1, .int p2)]) S.1 S.2.1 dX1_isWonBackwards_5 rfl hl (by decide) rfl (fun ls hl => ?_)
  have hx22 : ∀ (v1 : Int32) (H : Heap) (locs : List Loc) (ls : Array Slot), fX1_isWonBackwards_x22 v1 = some res → xI D A s [] (xT cI cC cZ) H locs → lv_has ls 4 [(2, .int v1)] → W p l e (headSpec wsX1_isWonBackwards rmX1_isWonBackwards).room s m args below meth c H locs 0 0 Q (F0 m 22 ls []) := by
    intro v1 H locs ls hf I hl
    replace hf := (fX1_isWonBackwards_x22_e _).symm.trans hf
    refine lv_iload_n S.1 S.2.1 dX1_isWonBackwards_22 rfl (lv_at hl 0 rfl) ?_
    refine lv_iconst (v := 1) S.1 S.2.1 dX1_isWonBackwards_23 (by decide) ?_
    refine lv_icmp_ne (tgt := 31) S.1 S.2.1 dX1_isWonBackwards_24 (by decide) (fun c2 => ?_) (fun c2 => ?_)
    · replace hf := x_ifF hf c2
      refine lv_iconst (v := 0) S.1 S.2.1 dX1_isWonBackwards_31 (by decide) ?_
      exact x_ri E rfl x_n0 hf rfl I rfl dX1_isWonBackwards_32
    · replace hf := x_ifT hf c2
      refine lv_iconst (v := 1) S.1 S.2.1 dX1_isWonBackwards_27 (by decide) ?_
      refine lv_goto (tgt := 32) S.1 S.2.1 dX1_isWonBackwards_28 (by decide) ?_
      exact x_ri E rfl x_n1 hf rfl I rfl dX1_isWonBackwards_32
  have hl6 : ∀ (n6 : Nat), ∀ (v3 : Int32) (v4 : Int32) (H : Heap) (locs : List Loc) (ls : Array Slot), (fX1_isWonBackwards_l6 n6) v3 v4 = some res → xI D A s [] (xT cI cC cZ) H locs → lv_has ls 4 [(3, .int v4), (2, .int v3)] → W p l e (headSpec wsX1_isWonBackwards rmX1_isWonBackwards).room s m args below meth c H locs 0 0 Q (F0 m 6 ls []) := by
    intro n6
    induction n6 with
    | zero =>
      intro v3 v4 H locs ls hf I hl
      cases (fX1_isWonBackwards_l6_z _ _).symm.trans hf
    | succ n6 ih6 =>
      intro v3 v4 H locs ls hf I hl
      replace hf := (fX1_isWonBackwards_l6_e _ _ _).symm.trans hf
      refine lv_iload_n S.1 S.2.1 dX1_isWonBackwards_6 rfl (lv_at hl 0 rfl) ?_
      refine lv_if_lt (tgt := 22) S.1 S.2.1 dX1_isWonBackwards_7 (by decide) (fun c5 => ?_) (fun c5 => ?_)
      · replace hf := x_ifT hf c5
        exact hx22 v3 _ _ _ hf I (lv_sub hl [1] rfl)
      · replace hf := x_ifF hf c5
        refine lv_iload_n S.1 S.2.1 dX1_isWonBackwards_10 rfl (lv_at hl 0 rfl) ?_
        refine lv_iload_n S.1 S.2.1 dX1_isWonBackwards_11 rfl (lv_at hl 1 rfl) ?_
        obtain ⟨r7, hg6, hf⟩ := x_b1E hf
        refine x_c0 (As := [.int v4, .int v3]) (rest := []) (st' := [.int r7]) S I rfl (tX1_wonAhead l D cI cC cZ v4 v3 r7 hg6) (va_cwS 2 S.2.2.2.2 gX1_isWonBackwards_X1_wonAhead rfl rfl rfl (by decide +kernel) ⟨Nat.le_of_ble_eq_true rfl, Nat.le_of_ble_eq_true rfl⟩) hl rfl (Nat.le_of_ble_eq_true rfl) ⟨Nat.zero_le _, Nat.zero_le _⟩ rfl dX1_isWonBackwards_12 (fun H locs I => ?_)
        refine lv_istore_n (lv' := [(2, .int r7), (3, .int v4)]) S.1 S.2.1 dX1_isWonBackwards_15 rfl hl (by decide) rfl (fun ls hl => ?_)
        refine lv_iinc (v := (v4 + (-1))) (lv' := [(3, .int (v4 + (-1))), (2, .int r7)]) S.1 S.2.1 dX1_isWonBackwards_16 hl (k := 1) rfl rfl (by decide) rfl (fun ls hl => ?_)
        refine lv_goto (tgt := 6) S.1 S.2.1 dX1_isWonBackwards_19 (by decide) ?_
        exact ih6 r7 (v4 + (-1)) _ _ _ hf I (lv_sub hl [0, 1] rfl)
  exact hl6 4096 p2 (p1 - 1) _ _ _ hf I (lv_sub hl [0, 1] rfl)
set_option maxHeartbeats 4000000 in
set_option maxRecDepth 100000 in
theorem tX1_said (l : Launch) (D : va_G) (cI cC cZ : ClassId) (p1 p2 p3 : Int32) (res : Int32) (hf : fX1_said p1 p2 p3 = some res) : xC l yX1_said wsX1_said rmX1_said D [.int p1, .int p2, .int p3] [] (fun _ => []) (xT cI cC cZ) (fun t => some (.int t)) res := by
  refine x_of (cc := cX1_said) (maxL := 4) (ret := (some .int)) (by decide) rfl (Nat.le_of_ble_eq_true rfl) ?_
  intro p e s m args below meth c A Q ls S I E hl
  replace hl : lv_has ls 4 [(0, .int p1), (1, .int p2), (2, .int p3)] := hl
  replace hf := (fX1_said_e _ _ _).symm.trans hf
  refine lv_iload_n S.1 S.2.1 dX1_said_0 rfl (lv_at hl 2 rfl) ?_
  refine lv_iconst (v := 1) S.1 S.2.1 dX1_said_1 (by decide) ?_
  refine lv_iand S.1 S.2.1 dX1_said_2 ?_
  refine lv_istore_n (lv' := [(3, .int (p3 &&& 1)), (0, .int p1), (1, .int p2), (2, .int p3)]) S.1 S.2.1 dX1_said_3 rfl hl (by decide) rfl (fun ls hl => ?_)
  refine lv_iload_n S.1 S.2.1 dX1_said_4 rfl (lv_at hl 1 rfl) ?_
  by_cases c1 : p1 = 0
  · replace hf := x_ifT hf c1
    refine lv_tableIn (off := 27) (tgt := 32) S.1 S.2.1 dX1_said_5 (by rw [c1]; decide) (by rw [c1]; decide) (by rw [c1]; rfl) (by decide) ?_
    refine lv_iload_n S.1 S.2.1 dX1_said_32 rfl (lv_at hl 2 rfl) ?_
    refine lv_iconst (v := 1) S.1 S.2.1 dX1_said_33 (by decide) ?_
    refine lv_iand S.1 S.2.1 dX1_said_34 ?_
    exact x_ri E rfl rfl hf rfl I rfl dX1_said_35
  · replace hf := x_ifF hf c1
    by_cases c2 : p1 = 1
    · replace hf := x_ifT hf c2
      refine lv_tableIn (off := 31) (tgt := 36) S.1 S.2.1 dX1_said_5 (by rw [c2]; decide) (by rw [c2]; decide) (by rw [c2]; rfl) (by decide) ?_
      refine lv_iload_n S.1 S.2.1 dX1_said_36 rfl (lv_at hl 0 rfl) ?_
      exact x_ri E rfl rfl hf rfl I rfl dX1_said_37
    · replace hf := x_ifF hf c2
      by_cases c3 : p1 = 2
      · replace hf := x_ifT hf c3
        refine lv_tableIn (off := 33) (tgt := 38) S.1 S.2.1 dX1_said_5 (by rw [c3]; decide) (by rw [c3]; decide) (by rw [c3]; rfl) (by decide) ?_
        refine lv_iload_n S.1 S.2.1 dX1_said_38 rfl (lv_at hl 2 rfl) ?_
        refine lv_iconst (v := 1) S.1 S.2.1 dX1_said_39 (by decide) ?_
        refine lv_iload_n S.1 S.2.1 dX1_said_40 rfl (lv_at hl 0 rfl) ?_
        refine lv_iadd S.1 S.2.1 dX1_said_41 ?_
        refine lv_ishr S.1 S.2.1 dX1_said_42 ?_
        refine lv_iconst (v := 1) S.1 S.2.1 dX1_said_43 (by decide) ?_
        refine lv_iand S.1 S.2.1 dX1_said_44 ?_
        exact x_ri E rfl rfl hf rfl I rfl dX1_said_45
      · replace hf := x_ifF hf c3
        refine lv_tableOut (tgt := 46) S.1 S.2.1 dX1_said_5 (by have e0 := lv_neT c1 (a := 0) (by decide); have e1 := lv_neT c2 (a := 1) (by decide); have e2 := lv_neT c3 (a := 2) (by decide); omega) (by decide) ?_
        refine lv_iload_n S.1 S.2.1 dX1_said_46 rfl (lv_at hl 3 rfl) ?_
        refine lv_iconst (v := 1) S.1 S.2.1 dX1_said_47 (by decide) ?_
        refine lv_ishr S.1 S.2.1 dX1_said_48 ?_
        exact x_ri E rfl rfl hf rfl I rfl dX1_said_49
set_option maxHeartbeats 4000000 in
set_option maxRecDepth 100000 in
theorem tX1_outcome (l : Launch) (D : va_G) (cI cC cZ : ClassId) (p1 p2 p3 : Int32) (res : Int32) (hf : fX1_outcome p1 p2 p3 = some res) : xC l yX1_outcome wsX1_outcome rmX1_outcome D [.int p1, .int p2, .int p3] [] (fun _ => []) (xT cI cC cZ) (fun t => some (.int t)) res := by
  refine x_of (cc := cX1_outcome) (maxL := 5) (ret := (some .int)) (by decide) rfl (Nat.le_of_ble_eq_true rfl) ?_
  intro p e s m args below meth c A Q ls S I E hl
  replace hl : lv_has ls 5 [(0, .int p1), (1, .int p2), (2, .int p3)] := hl
  replace hf := (fX1_outcome_e _ _ _).symm.trans hf
  refine lv_iconst (v := 0) S.1 S.2.1 dX1_outcome_0 (by decide) ?_
  refine lv_istore_n (lv' := [(3, .int 0), (0, .int p1), (1, .int p2), (2, .int p3)]) S.1 S.2.1 dX1_outcome_1 rfl hl (by decide) rfl (fun ls hl => ?_)
  refine lv_iconst (v := 0) S.1 S.2.1 dX1_outcome_2 (by decide) ?_
  refine lv_istore (lv' := [(4, .int 0), (3, .int 0), (0, .int p1), (1, .int p2), (2, .int p3)]) S.1 S.2.1 dX1_outcome_3 hl (by decide) rfl (fun ls hl => ?_)
  have hl5 : ∀ (n5 : Nat), ∀ (v1 : Int32) (v2 : Int32) (H : Heap) (locs : List Loc) (ls : Array Slot), (fX1_outcome_l5 p3 p1 p2 n5) v1 v2 = some res → xI D A s [] (xT cI cC cZ) H locs → lv_has ls 5 [(4, .int v2), (3, .int v1), (0, .int p1), (1, .int p2), (2, .int p3)] → W p l e (headSpec wsX1_outcome rmX1_outcome).room s m args below meth c H locs 0 0 Q (F0 m 5 ls []) := by
    intro n5
    induction n5 with
    | zero =>
      intro v1 v2 H locs ls hf I hl
      cases (fX1_outcome_l5_z _ _ _ _ _).symm.trans hf
    | succ n5 ih5 =>
      intro v1 v2 H locs ls hf I hl
      replace hf := (fX1_outcome_l5_e _ _ _ _ _ _).symm.trans hf
      refine lv_iload S.1 S.2.1 dX1_outcome_5 (lv_at hl 0 rfl) ?_
      refine lv_iload_n S.1 S.2.1 dX1_outcome_7 rfl (lv_at hl 4 rfl) ?_
      refine lv_icmp_ge (tgt := 29) S.1 S.2.1 dX1_outcome_8 (by decide) (fun c3 => ?_) (fun c3 => ?_)
      · replace hf := x_ifT hf c3
        refine lv_iload_n S.1 S.2.1 dX1_outcome_29 rfl (lv_at hl 1 rfl) ?_
        exact x_ri E rfl rfl hf rfl I rfl dX1_outcome_30
      · replace hf := x_ifF hf c3
        refine lv_iconst (v := 2) S.1 S.2.1 dX1_outcome_11 (by decide) ?_
        refine lv_iload_n S.1 S.2.1 dX1_outcome_12 rfl (lv_at hl 1 rfl) ?_
        refine lv_imul S.1 S.2.1 dX1_outcome_13 ?_
        refine lv_iload S.1 S.2.1 dX1_outcome_14 (lv_at hl 0 rfl) ?_
        refine lv_iload_n S.1 S.2.1 dX1_outcome_16 rfl (lv_at hl 2 rfl) ?_
        refine lv_iload_n S.1 S.2.1 dX1_outcome_17 rfl (lv_at hl 3 rfl) ?_
        obtain ⟨r5, hg4, hf⟩ := x_b1E hf
        refine x_c0 (As := [.int v2, .int p1, .int p2]) (rest := [.int (2 * v1)]) (st' := [.int r5, .int (2 * v1)]) S I rfl (tX1_said l D cI cC cZ v2 p1 p2 r5 hg4) (va_cwS 3 S.2.2.2.2 gX1_outcome_X1_said rfl rfl rfl (by decide +kernel) ⟨Nat.le_of_ble_eq_true rfl, Nat.le_of_ble_eq_true rfl⟩) hl rfl (Nat.le_of_ble_eq_true rfl) ⟨Nat.zero_le _, Nat.zero_le _⟩ rfl dX1_outcome_18 (fun H locs I => ?_)
        refine lv_iadd S.1 S.2.1 dX1_outcome_21 ?_
        refine lv_istore_n (lv' := [(3, .int ((2 * v1) + r5)), (4, .int v2), (0, .int p1), (1, .int p2), (2, .int p3)]) S.1 S.2.1 dX1_outcome_22 rfl hl (by decide) rfl (fun ls hl => ?_)
        refine lv_iinc (v := (v2 + 1)) (lv' := [(4, .int (v2 + 1)), (3, .int ((2 * v1) + r5)), (0, .int p1), (1, .int p2), (2, .int p3)]) S.1 S.2.1 dX1_outcome_23 hl (k := 1) rfl rfl (by decide) rfl (fun ls hl => ?_)
        refine lv_goto (tgt := 5) S.1 S.2.1 dX1_outcome_26 (by decide) ?_
        exact ih5 ((2 * v1) + r5) (v2 + 1) _ _ _ hf I (lv_sub hl [0, 1, 2, 3, 4] rfl)
  exact hl5 4096 0 0 _ _ _ hf I (lv_sub hl [0, 1, 2, 3, 4] rfl)
set_option maxHeartbeats 4000000 in
set_option maxRecDepth 100000 in
theorem tX1_winsAlways (l : Launch) (D : va_G) (cI cC cZ : ClassId) (p1 p2 p3 : Int32) (res : Int32) (hf : fX1_winsAlways p1 p2 p3 = some res) : xC l yX1_winsAlways wsX1_winsAlways rmX1_winsAlways D [.int p1, .int p2, .int p3] [] (fun _ => []) (xT cI cC cZ) (fun t => some (.int t)) res := by
  refine x_of (cc := cX1_winsAlways) (maxL := 4) (ret := (some .boolean)) (by decide) rfl (Nat.le_of_ble_eq_true rfl) ?_
  intro p e s m args below meth c A Q ls S I E hl
  replace hl : lv_has ls 4 [(0, .int p1), (1, .int p2), (2, .int p3)] := hl
  replace hf := (fX1_winsAlways_e _ _ _).symm.trans hf
  refine lv_iconst (v := 0) S.1 S.2.1 dX1_winsAlways_0 (by decide) ?_
  refine lv_istore_n (lv' := [(3, .int 0), (0, .int p1), (1, .int p2), (2, .int p3)]) S.1 S.2.1 dX1_winsAlways_1 rfl hl (by decide) rfl (fun ls hl => ?_)
  have hl2 : ∀ (n2 : Nat), ∀ (v1 : Int32) (H : Heap) (locs : List Loc) (ls : Array Slot), (fX1_winsAlways_l2 p1 p2 p3 n2) v1 = some res → xI D A s [] (xT cI cC cZ) H locs → lv_has ls 4 [(3, .int v1), (0, .int p1), (1, .int p2), (2, .int p3)] → W p l e (headSpec wsX1_winsAlways rmX1_winsAlways).room s m args below meth c H locs 0 0 Q (F0 m 2 ls []) := by
    intro n2
    induction n2 with
    | zero =>
      intro v1 H locs ls hf I hl
      cases (fX1_winsAlways_l2_z _ _ _ _).symm.trans hf
    | succ n2 ih2 =>
      intro v1 H locs ls hf I hl
      replace hf := (fX1_winsAlways_l2_e _ _ _ _ _).symm.trans hf
      refine lv_iload_n S.1 S.2.1 dX1_winsAlways_2 rfl (lv_at hl 0 rfl) ?_
      refine lv_iconst (v := 4) S.1 S.2.1 dX1_winsAlways_3 (by decide) ?_
      refine lv_icmp_ge (tgt := 28) S.1 S.2.1 dX1_winsAlways_4 (by decide) (fun c2 => ?_) (fun c2 => ?_)
      · replace hf := x_ifT hf c2
        refine lv_iconst (v := 1) S.1 S.2.1 dX1_winsAlways_28 (by decide) ?_
        exact x_ri E rfl x_n1 hf rfl I rfl dX1_winsAlways_29
      · replace hf := x_ifF hf c2
        refine lv_iload_n S.1 S.2.1 dX1_winsAlways_7 rfl (lv_at hl 3 rfl) ?_
        refine lv_iload_n S.1 S.2.1 dX1_winsAlways_8 rfl (lv_at hl 1 rfl) ?_
        refine lv_iload_n S.1 S.2.1 dX1_winsAlways_9 rfl (lv_at hl 0 rfl) ?_
        refine lv_iload_n S.1 S.2.1 dX1_winsAlways_10 rfl (lv_at hl 2 rfl) ?_
        obtain ⟨r4, hg3, hf⟩ := x_b1E hf
        refine x_c0 (As := [.int p1, .int v1, .int p2]) (rest := [.int p3]) (st' := [.int r4, .int p3]) S I rfl (tX1_outcome l D cI cC cZ p1 v1 p2 r4 hg3) (va_cwS 3 S.2.2.2.2 gX1_winsAlways_X1_outcome rfl rfl rfl (by decide +kernel) ⟨Nat.le_of_ble_eq_true rfl, Nat.le_of_ble_eq_true rfl⟩) hl rfl (Nat.le_of_ble_eq_true rfl) ⟨Nat.zero_le _, Nat.zero_le _⟩ rfl dX1_winsAlways_11 (fun H locs I => ?_)
        refine lv_ishr S.1 S.2.1 dX1_winsAlways_14 ?_
        refine lv_iconst (v := 1) S.1 S.2.1 dX1_winsAlways_15 (by decide) ?_
        refine lv_iand S.1 S.2.1 dX1_winsAlways_16 ?_
        refine lv_if_ne (tgt := 22) S.1 S.2.1 dX1_winsAlways_17 (by decide) (fun c5 => ?_) (fun c5 => ?_)
        · replace hf := x_ifF hf c5
          refine lv_iinc (v := (v1 + 1)) (lv' := [(3, .int (v1 + 1)), (0, .int p1), (1, .int p2), (2, .int p3)]) S.1 S.2.1 dX1_winsAlways_22 hl (k := 0) rfl rfl (by decide) rfl (fun ls hl => ?_)
          refine lv_goto (tgt := 2) S.1 S.2.1 dX1_winsAlways_25 (by decide) ?_
          exact ih2 (v1 + 1) _ _ _ hf I (lv_sub hl [0, 1, 2, 3] rfl)
        · replace hf := x_ifT hf c5
          refine lv_iconst (v := 0) S.1 S.2.1 dX1_winsAlways_20 (by decide) ?_
          exact x_ri E rfl x_n0 hf rfl I rfl dX1_winsAlways_21
  exact hl2 4096 0 _ _ _ hf I (lv_sub hl [0, 1, 2, 3] rfl)
set_option maxHeartbeats 4000000 in
set_option maxRecDepth 100000 in
theorem tX1_isWonBySomePlan (l : Launch) (D : va_G) (cI cC cZ : ClassId) (p1 p2 : Int32) (res : Int32) (hf : fX1_isWonBySomePlan p1 p2 = some res) : xC l yX1_isWonBySomePlan wsX1_isWonBySomePlan rmX1_isWonBySomePlan D [.int p1, .int p2] [] (fun _ => []) (xT cI cC cZ) (fun t => some (.int t)) res := by
  refine x_of (cc := cX1_isWonBySomePlan) (maxL := 3) (ret := (some .boolean)) (by decide) rfl (Nat.le_of_ble_eq_true rfl) ?_
  intro p e s m args below meth c A Q ls S I E hl
  replace hl : lv_has ls 3 [(0, .int p1), (1, .int p2)] := hl
  replace hf := (fX1_isWonBySomePlan_e _ _).symm.trans hf
  refine lv_iconst (v := 0) S.1 S.2.1 dX1_isWonBySomePlan_0 (by decide) ?_
  refine lv_istore_n (lv' := [(2, .int 0), (0, .int p1), (1, .int p2)]) S.1 S.2.1 dX1_isWonBySomePlan_1 rfl hl (by decide) rfl (fun ls hl => ?_)
  have hl2 : ∀ (n2 : Nat), ∀ (v1 : Int32) (H : Heap) (locs : List Loc) (ls : Array Slot), (fX1_isWonBySomePlan_l2 p1 p2 n2) v1 = some res → xI D A s [] (xT cI cC cZ) H locs → lv_has ls 3 [(2, .int v1), (0, .int p1), (1, .int p2)] → W p l e (headSpec wsX1_isWonBySomePlan rmX1_isWonBySomePlan).room s m args below meth c H locs 0 0 Q (F0 m 2 ls []) := by
    intro n2
    induction n2 with
    | zero =>
      intro v1 H locs ls hf I hl
      cases (fX1_isWonBySomePlan_l2_z _ _ _).symm.trans hf
    | succ n2 ih2 =>
      intro v1 H locs ls hf I hl
      replace hf := (fX1_isWonBySomePlan_l2_e _ _ _ _).symm.trans hf
      refine lv_iload_n S.1 S.2.1 dX1_isWonBySomePlan_2 rfl (lv_at hl 0 rfl) ?_
      refine lv_bipush (v := 8) S.1 S.2.1 dX1_isWonBySomePlan_3 (by decide) ?_
      refine lv_icmp_ge (tgt := 25) S.1 S.2.1 dX1_isWonBySomePlan_5 (by decide) (fun c2 => ?_) (fun c2 => ?_)
      · replace hf := x_ifT hf c2
        refine lv_iconst (v := 0) S.1 S.2.1 dX1_isWonBySomePlan_25 (by decide) ?_
        exact x_ri E rfl x_n0 hf rfl I rfl dX1_isWonBySomePlan_26
      · replace hf := x_ifF hf c2
        refine lv_iload_n S.1 S.2.1 dX1_isWonBySomePlan_8 rfl (lv_at hl 0 rfl) ?_
        refine lv_iload_n S.1 S.2.1 dX1_isWonBySomePlan_9 rfl (lv_at hl 1 rfl) ?_
        refine lv_iload_n S.1 S.2.1 dX1_isWonBySomePlan_10 rfl (lv_at hl 2 rfl) ?_
        obtain ⟨r4, hg3, hf⟩ := x_b1E hf
        refine x_c0 (As := [.int v1, .int p1, .int p2]) (rest := []) (st' := [.int r4]) S I rfl (tX1_winsAlways l D cI cC cZ v1 p1 p2 r4 hg3) (va_cwS 3 S.2.2.2.2 gX1_isWonBySomePlan_X1_winsAlways rfl rfl rfl (by decide +kernel) ⟨Nat.le_of_ble_eq_true rfl, Nat.le_of_ble_eq_true rfl⟩) hl rfl (Nat.le_of_ble_eq_true rfl) ⟨Nat.zero_le _, Nat.zero_le _⟩ rfl dX1_isWonBySomePlan_11 (fun H locs I => ?_)
        refine lv_if_eq (tgt := 19) S.1 S.2.1 dX1_isWonBySomePlan_14 (by decide) (fun c5 => ?_) (fun c5 => ?_)
        · replace hf := x_ifT hf c5
          refine lv_iinc (v := (v1 + 1)) (lv' := [(2, .int (v1 + 1)), (0, .int p1), (1, .int p2)]) S.1 S.2.1 dX1_isWonBySomePlan_19 hl (k := 0) rfl rfl (by decide) rfl (fun ls hl => ?_)
          refine lv_goto (tgt := 2) S.1 S.2.1 dX1_isWonBySomePlan_22 (by decide) ?_
          exact ih2 (v1 + 1) _ _ _ hf I (lv_sub hl [0, 1, 2] rfl)
        · replace hf := x_ifF hf c5
          refine lv_iconst (v := 1) S.1 S.2.1 dX1_isWonBySomePlan_17 (by decide) ?_
          exact x_ri E rfl x_n1 hf rfl I rfl dX1_isWonBySomePlan_18
  exact hl2 4096 0 _ _ _ hf I (lv_sub hl [0, 1, 2] rfl)
