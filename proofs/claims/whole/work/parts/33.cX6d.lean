set_option maxHeartbeats 4000000 in
set_option maxRecDepth 100000 in
theorem tX6_served (l : Launch) (D : va_G) (cI cC cZ : ClassId) (h : Nat) (a : Nat → Nat) (F : xF) (G : xG) (p1 p2 p3 p4 : Int32) (res : Int32) (hf : fX6_served G p1 p2 p3 p4 = some res) : xC l yX6_served wsX6_served rmX6_served D [.ref h, .int p1, .int p2, .int p3, .int p4] (wX6 cI cC cZ h a F G) (fun _ => (wX6 cI cC cZ h a F G)) (xT cI cC cZ) (fun t => some (.int t)) res := by
  have kX6 : ∀ w ∈ u_ws RX6 TX6 32, w ∈ wsX6_served := by decide +kernel
  refine x_of (cc := cX6_served) (maxL := 9) (ret := (some .int)) (by decide) rfl (Nat.le_of_ble_eq_true rfl) ?_
  intro p e s m args below meth c A Q ls S I E hl
  replace hl : lv_has ls 9 [(0, .ref h), (1, .int p1), (2, .int p2), (3, .int p3), (4, .int p4)] := hl
  replace hf := (fX6_served_e _ _ _ _ _).symm.trans hf
  refine lv_iconst (v := (-1)) S.1 S.2.1 dX6_served_0 (by decide) ?_
  refine lv_istore (lv' := [(5, .int (-1)), (0, .ref h), (1, .int p1), (2, .int p2), (3, .int p3), (4, .int p4)]) S.1 S.2.1 dX6_served_1 hl (by decide) rfl (fun ls hl => ?_)
  refine lv_aload_n S.1 S.2.1 dX6_served_3 rfl (lv_at hl 1 rfl) ?_
  refine x_get (C := RX6) (T := TX6) (N := 32) (ci := 5) (v := .ref (a 28)) S kX6 rfl I 0 28 rfl (by decide) (by decide +kernel) rfl dX6_served_4 ?_
  refine lv_iload_n S.1 S.2.1 dX6_served_7 rfl (lv_at hl 3 rfl) ?_
  obtain ⟨hi1, hf⟩ := x_ldE hf
  refine x_iald (f := (G 28)) S I 20 0 rfl rfl hi1 dX6_served_8 ?_
  refine lv_iconst (v := 1) S.1 S.2.1 dX6_served_9 (by decide) ?_
  refine lv_isub S.1 S.2.1 dX6_served_10 ?_
  refine lv_istore (lv' := [(6, .int (((G 28) p2.toNatClampNeg) - 1)), (5, .int (-1)), (0, .ref h), (1, .int p1), (2, .int p2), (3, .int p3), (4, .int p4)]) S.1 S.2.1 dX6_served_11 hl (by decide) rfl (fun ls hl => ?_)
  have hl13 : ∀ (n13 : Nat), ∀ (v2 : Int32) (v3 : Int32) (H : Heap) (locs : List Loc) (ls : Array Slot), (fX6_served_l13 G p2 p1 p3 p4 n13) v2 v3 = some res → xI D A s (wX6 cI cC cZ h a F G) (xT cI cC cZ) H locs → lv_has ls 9 [(6, .int v3), (5, .int v2), (0, .ref h), (1, .int p1), (2, .int p2), (3, .int p3), (4, .int p4)] → W p l e (headSpec wsX6_served rmX6_served).room s m args below meth c H locs 0 0 Q (F0 m 13 ls []) := by
    intro n13
    induction n13 with
    | zero =>
      intro v2 v3 H locs ls hf I hl
      cases (fX6_served_l13_z _ _ _ _ _ _ _).symm.trans hf
    | succ n13 ih13 =>
      intro v2 v3 H locs ls hf I hl
      replace hf := (fX6_served_l13_e _ _ _ _ _ _ _ _).symm.trans hf
      refine lv_iload S.1 S.2.1 dX6_served_13 (lv_at hl 0 rfl) ?_
      refine lv_if_lt (tgt := 115) S.1 S.2.1 dX6_served_15 (by decide) (fun c4 => ?_) (fun c4 => ?_)
      · replace hf := x_ifT hf c4
        refine lv_iload S.1 S.2.1 dX6_served_115 (lv_at hl 1 rfl) ?_
        exact x_ri E rfl rfl hf rfl I rfl dX6_served_117
      · replace hf := x_ifF hf c4
        refine lv_iconst (v := 1) S.1 S.2.1 dX6_served_18 (by decide) ?_
        refine lv_istore (lv' := [(7, .int 1), (6, .int v3), (5, .int v2), (0, .ref h), (1, .int p1), (2, .int p2), (3, .int p3), (4, .int p4)]) S.1 S.2.1 dX6_served_19 hl (by decide) rfl (fun ls hl => ?_)
        refine lv_iconst (v := 0) S.1 S.2.1 dX6_served_21 (by decide) ?_
        refine lv_istore (lv' := [(8, .int 0), (7, .int 1), (6, .int v3), (5, .int v2), (0, .ref h), (1, .int p1), (2, .int p2), (3, .int p3), (4, .int p4)]) S.1 S.2.1 dX6_served_22 hl (by decide) rfl (fun ls hl => ?_)
        have hx95 : ∀ (v5 : Int32) (H : Heap) (locs : List Loc) (ls : Array Slot), (fX6_served_x95 (fX6_served_l13 G p2 p1 p3 p4 n13) v3 v2) v5 = some res → xI D A s (wX6 cI cC cZ h a F G) (xT cI cC cZ) H locs → lv_has ls 9 [(7, .int v5), (6, .int v3), (5, .int v2), (0, .ref h), (1, .int p1), (2, .int p2), (3, .int p3), (4, .int p4)] → W p l e (headSpec wsX6_served rmX6_served).room s m args below meth c H locs 0 0 Q (F0 m 95 ls []) := by
          intro v5 H locs ls hf I hl
          replace hf := (fX6_served_x95_e _ _ _ _).symm.trans hf
          refine lv_iload S.1 S.2.1 dX6_served_95 (lv_at hl 0 rfl) ?_
          have hj107 : ∀ (v6 : Int32) (H : Heap) (locs : List Loc) (ls : Array Slot), (fX6_served_j107 (fX6_served_l13 G p2 p1 p3 p4 n13) v3) v6 = some res → xI D A s (wX6 cI cC cZ h a F G) (xT cI cC cZ) H locs → lv_has ls 9 [(6, .int v3), (0, .ref h), (1, .int p1), (2, .int p2), (3, .int p3), (4, .int p4)] → W p l e (headSpec wsX6_served rmX6_served).room s m args below meth c H locs 0 0 Q (F0 m 107 ls [.int v6]) := by
            intro v6 H locs ls hf I hl
            replace hf := (fX6_served_j107_e _ _ _).symm.trans hf
            refine lv_istore (lv' := [(5, .int v6), (6, .int v3), (0, .ref h), (1, .int p1), (2, .int p2), (3, .int p3), (4, .int p4)]) S.1 S.2.1 dX6_served_107 hl (by decide) rfl (fun ls hl => ?_)
            refine lv_iinc (v := (v3 + (-1))) (lv' := [(6, .int (v3 + (-1))), (5, .int v6), (0, .ref h), (1, .int p1), (2, .int p2), (3, .int p3), (4, .int p4)]) S.1 S.2.1 dX6_served_109 hl (k := 1) rfl rfl (by decide) rfl (fun ls hl => ?_)
            refine lv_goto (tgt := 13) S.1 S.2.1 dX6_served_112 (by decide) ?_
            exact ih13 v6 (v3 + (-1)) _ _ _ hf I (lv_sub hl [0, 1, 2, 3, 4, 5, 6] rfl)
          refine lv_if_eq (tgt := 105) S.1 S.2.1 dX6_served_97 (by decide) (fun c7 => ?_) (fun c7 => ?_)
          · replace hf := x_ifT hf c7
            refine lv_iload S.1 S.2.1 dX6_served_105 (lv_at hl 2 rfl) ?_
            exact hj107 v2 _ _ _ hf I (lv_sub hl [1, 3, 4, 5, 6, 7] rfl)
          · replace hf := x_ifF hf c7
            refine lv_iload S.1 S.2.1 dX6_served_100 (lv_at hl 1 rfl) ?_
            refine lv_goto (tgt := 107) S.1 S.2.1 dX6_served_102 (by decide) ?_
            exact hj107 v3 _ _ _ hf I (lv_sub hl [1, 3, 4, 5, 6, 7] rfl)
        have hl24 : ∀ (n24 : Nat), ∀ (v8 : Int32) (v9 : Int32) (H : Heap) (locs : List Loc) (ls : Array Slot), (fX6_served_l24 (fX6_served_l13 G p2 p1 p3 p4 n13) G p2 v3 v2 p1 p3 p4 n24) v8 v9 = some res → xI D A s (wX6 cI cC cZ h a F G) (xT cI cC cZ) H locs → lv_has ls 9 [(8, .int v9), (7, .int v8), (6, .int v3), (5, .int v2), (0, .ref h), (1, .int p1), (2, .int p2), (3, .int p3), (4, .int p4)] → W p l e (headSpec wsX6_served rmX6_served).room s m args below meth c H locs 0 0 Q (F0 m 24 ls []) := by
          intro n24
          induction n24 with
          | zero =>
            intro v8 v9 H locs ls hf I hl
            cases (fX6_served_l24_z _ _ _ _ _ _ _ _ _ _).symm.trans hf
          | succ n24 ih24 =>
            intro v8 v9 H locs ls hf I hl
            replace hf := (fX6_served_l24_e _ _ _ _ _ _ _ _ _ _ _).symm.trans hf
            refine lv_iload S.1 S.2.1 dX6_served_24 (lv_at hl 0 rfl) ?_
            refine lv_aload_n S.1 S.2.1 dX6_served_26 rfl (lv_at hl 4 rfl) ?_
            refine x_get (C := RX6) (T := TX6) (N := 32) (ci := 5) (v := .ref (a 29)) S kX6 rfl I 0 29 rfl (by decide) (by decide +kernel) rfl dX6_served_27 ?_
            refine lv_iload_n S.1 S.2.1 dX6_served_30 rfl (lv_at hl 6 rfl) ?_
            obtain ⟨hi10, hf⟩ := x_ldE hf
            refine x_iald (f := (G 29)) S I 21 0 rfl rfl hi10 dX6_served_31 ?_
            refine lv_icmp_ge (tgt := 95) S.1 S.2.1 dX6_served_32 (by decide) (fun c11 => ?_) (fun c11 => ?_)
            · replace hf := x_ifT hf c11
              exact hx95 v8 _ _ _ hf I (lv_sub hl [1, 2, 3, 4, 5, 6, 7, 8] rfl)
            · replace hf := x_ifF hf c11
              refine lv_iload S.1 S.2.1 dX6_served_35 (lv_at hl 1 rfl) ?_
              have hj87 : ∀ (v12 : Int32) (H : Heap) (locs : List Loc) (ls : Array Slot), (fX6_served_j87 (fX6_served_l24 (fX6_served_l13 G p2 p1 p3 p4 n13) G p2 v3 v2 p1 p3 p4 n24) v9) v12 = some res → xI D A s (wX6 cI cC cZ h a F G) (xT cI cC cZ) H locs → lv_has ls 9 [(8, .int v9), (6, .int v3), (5, .int v2), (0, .ref h), (1, .int p1), (2, .int p2), (3, .int p3), (4, .int p4)] → W p l e (headSpec wsX6_served rmX6_served).room s m args below meth c H locs 0 0 Q (F0 m 87 ls [.int v12]) := by
                intro v12 H locs ls hf I hl
                replace hf := (fX6_served_j87_e _ _ _).symm.trans hf
                refine lv_istore (lv' := [(7, .int v12), (8, .int v9), (6, .int v3), (5, .int v2), (0, .ref h), (1, .int p1), (2, .int p2), (3, .int p3), (4, .int p4)]) S.1 S.2.1 dX6_served_87 hl (by decide) rfl (fun ls hl => ?_)
                refine lv_iinc (v := (v9 + 1)) (lv' := [(8, .int (v9 + 1)), (7, .int v12), (6, .int v3), (5, .int v2), (0, .ref h), (1, .int p1), (2, .int p2), (3, .int p3), (4, .int p4)]) S.1 S.2.1 dX6_served_89 hl (k := 1) rfl rfl (by decide) rfl (fun ls hl => ?_)
                refine lv_goto (tgt := 24) S.1 S.2.1 dX6_served_92 (by decide) ?_
                exact ih24 v12 (v9 + 1) _ _ _ hf I (lv_sub hl [0, 1, 2, 3, 4, 5, 6, 7, 8] rfl)
              have hj86 : ∀  (H : Heap) (locs : List Loc) (ls : Array Slot), (fX6_served_j86 (fX6_served_l24 (fX6_served_l13 G p2 p1 p3 p4 n13) G p2 v3 v2 p1 p3 p4 n24) v9) = some res → xI D A s (wX6 cI cC cZ h a F G) (xT cI cC cZ) H locs → lv_has ls 9 [(8, .int v9), (6, .int v3), (5, .int v2), (0, .ref h), (1, .int p1), (2, .int p2), (3, .int p3), (4, .int p4)] → W p l e (headSpec wsX6_served rmX6_served).room s m args below meth c H locs 0 0 Q (F0 m 86 ls []) := by
                intro  H locs ls hf I hl
                replace hf := (fX6_served_j86_e _ _).symm.trans hf
                refine lv_iconst (v := 0) S.1 S.2.1 dX6_served_86 (by decide) ?_
                exact hj87 0 _ _ _ hf I (lv_sub hl [0, 1, 2, 3, 4, 5, 6, 7] rfl)
              refine lv_if_eq (tgt := 86) S.1 S.2.1 dX6_served_37 (by decide) (fun c13 => ?_) (fun c13 => ?_)
              · replace hf := x_ifT hf c13
                exact hj86 _ _ _ hf I (lv_sub hl [0, 2, 3, 4, 5, 6, 7, 8] rfl)
              · replace hf := x_ifF hf c13
                refine lv_aload_n S.1 S.2.1 dX6_served_40 rfl (lv_at hl 4 rfl) ?_
                refine x_get (C := RX6) (T := TX6) (N := 32) (ci := 5) (v := .ref (a 30)) S kX6 rfl I 0 30 rfl (by decide) (by decide +kernel) rfl dX6_served_41 ?_
                refine lv_iload_n S.1 S.2.1 dX6_served_44 rfl (lv_at hl 6 rfl) ?_
                obtain ⟨hi14, hf⟩ := x_ldE hf
                refine x_iald (f := (G 30)) S I 22 0 rfl rfl hi14 dX6_served_45 ?_
                refine lv_iload S.1 S.2.1 dX6_served_46 (lv_at hl 2 rfl) ?_
                refine lv_iload S.1 S.2.1 dX6_served_48 (lv_at hl 0 rfl) ?_
                obtain ⟨r16, hg15, hf⟩ := x_b1E hf
                refine x_c0 (As := [.int ((G 30) p2.toNatClampNeg), .int v3, .int v9]) (rest := []) (st' := [.int r16]) S I rfl (tX6_isSolved l D cI cC cZ ((G 30) p2.toNatClampNeg) v3 v9 r16 hg15) (va_cwS 3 S.2.2.2.2 gX6_served_X6_isSolved rfl rfl rfl (by decide +kernel) ⟨Nat.le_of_ble_eq_true rfl, Nat.le_of_ble_eq_true rfl⟩) hl rfl (Nat.le_of_ble_eq_true rfl) ⟨Nat.zero_le _, Nat.zero_le _⟩ rfl dX6_served_50 (fun H locs I => ?_)
                have hj82 : ∀  (H : Heap) (locs : List Loc) (ls : Array Slot), (fX6_served_j82 (fX6_served_l24 (fX6_served_l13 G p2 p1 p3 p4 n13) G p2 v3 v2 p1 p3 p4 n24) v9) = some res → xI D A s (wX6 cI cC cZ h a F G) (xT cI cC cZ) H locs → lv_has ls 9 [(8, .int v9), (6, .int v3), (5, .int v2), (0, .ref h), (1, .int p1), (2, .int p2), (3, .int p3), (4, .int p4)] → W p l e (headSpec wsX6_served rmX6_served).room s m args below meth c H locs 0 0 Q (F0 m 82 ls []) := by
                  intro  H locs ls hf I hl
                  replace hf := (fX6_served_j82_e _ _).symm.trans hf
                  refine lv_iconst (v := 1) S.1 S.2.1 dX6_served_82 (by decide) ?_
                  refine lv_goto (tgt := 87) S.1 S.2.1 dX6_served_83 (by decide) ?_
                  exact hj87 1 _ _ _ hf I (lv_sub hl [0, 1, 2, 3, 4, 5, 6, 7] rfl)
                refine lv_if_eq (tgt := 82) S.1 S.2.1 dX6_served_53 (by decide) (fun c17 => ?_) (fun c17 => ?_)
                · replace hf := x_ifT hf c17
                  exact hj82 _ _ _ hf I (lv_sub hl [0, 2, 3, 4, 5, 6, 7, 8] rfl)
                · replace hf := x_ifF hf c17
                  refine lv_aload_n S.1 S.2.1 dX6_served_56 rfl (lv_at hl 4 rfl) ?_
                  refine x_get (C := RX6) (T := TX6) (N := 32) (ci := 5) (v := .ref (a 30)) S kX6 rfl I 0 30 rfl (by decide) (by decide +kernel) rfl dX6_served_57 ?_
                  refine lv_iload_n S.1 S.2.1 dX6_served_60 rfl (lv_at hl 5 rfl) ?_
                  obtain ⟨hi18, hf⟩ := x_ldE hf
                  refine x_iald (f := (G 30)) S I 22 0 rfl rfl hi18 dX6_served_61 ?_
                  refine lv_iload S.1 S.2.1 dX6_served_62 (lv_at hl 8 rfl) ?_
                  refine lv_iload_n S.1 S.2.1 dX6_served_64 rfl (lv_at hl 7 rfl) ?_
                  refine lv_aload_n S.1 S.2.1 dX6_served_65 rfl (lv_at hl 4 rfl) ?_
                  refine x_get (C := RX6) (T := TX6) (N := 32) (ci := 5) (v := .ref (a 29)) S kX6 rfl I 0 29 rfl (by decide) (by decide +kernel) rfl dX6_served_66 ?_
                  refine lv_iload_n S.1 S.2.1 dX6_served_69 rfl (lv_at hl 5 rfl) ?_
                  obtain ⟨hi19, hf⟩ := x_ldE hf
                  refine x_iald (f := (G 29)) S I 21 0 rfl rfl hi19 dX6_served_70 ?_
                  refine lv_iload S.1 S.2.1 dX6_served_71 (lv_at hl 0 rfl) ?_
                  obtain ⟨r21, hg20, hf⟩ := x_b1E hf
                  refine x_c0 (As := [.int p3, .int ((G 29) p1.toNatClampNeg), .int v9]) (rest := [.int p4, .int ((G 30) p1.toNatClampNeg)]) (st' := [.int r21, .int p4, .int ((G 30) p1.toNatClampNeg)]) S I rfl (tX6_given l D cI cC cZ p3 ((G 29) p1.toNatClampNeg) v9 r21 hg20) (va_cwS 3 S.2.2.2.2 gX6_served_X6_given rfl rfl rfl (by decide +kernel) ⟨Nat.le_of_ble_eq_true rfl, Nat.le_of_ble_eq_true rfl⟩) hl rfl (Nat.le_of_ble_eq_true rfl) ⟨Nat.zero_le _, Nat.zero_le _⟩ rfl dX6_served_73 (fun H locs I => ?_)
                  obtain ⟨r23, hg22, hf⟩ := x_b1E hf
                  refine x_c0 (As := [.int ((G 30) p1.toNatClampNeg), .int p4, .int r21]) (rest := []) (st' := [.int r23]) S I rfl (tX6_isSolved l D cI cC cZ ((G 30) p1.toNatClampNeg) p4 r21 r23 hg22) (va_cwS 3 S.2.2.2.2 gX6_served_X6_isSolved rfl rfl rfl (by decide +kernel) ⟨Nat.le_of_ble_eq_true rfl, Nat.le_of_ble_eq_true rfl⟩) hl rfl (Nat.le_of_ble_eq_true rfl) ⟨Nat.zero_le _, Nat.zero_le _⟩ rfl dX6_served_76 (fun H locs I => ?_)
                  refine lv_if_eq (tgt := 86) S.1 S.2.1 dX6_served_79 (by decide) (fun c24 => ?_) (fun c24 => ?_)
                  · replace hf := x_ifT hf c24
                    exact hj86 _ _ _ hf I (lv_sub hl [0, 2, 3, 4, 5, 6, 7, 8] rfl)
                  · replace hf := x_ifF hf c24
                    exact hj82 _ _ _ hf I (lv_sub hl [0, 2, 3, 4, 5, 6, 7, 8] rfl)
        exact hl24 4096 1 0 _ _ _ hf I (lv_sub hl [0, 1, 2, 3, 4, 5, 6, 7, 8] rfl)
  exact hl13 4096 (-1) (((G 28) p2.toNatClampNeg) - 1) _ _ _ hf I (lv_sub hl [0, 1, 2, 3, 4, 5, 6] rfl)
set_option maxHeartbeats 4000000 in
set_option maxRecDepth 100000 in
theorem tX6_codeOf (l : Launch) (D : va_G) (cI cC cZ : ClassId) (h : Nat) (a : Nat → Nat) (F : xF) (G : xG) (p1 p2 : Int32) (res : Int32) (hf : fX6_codeOf G p1 p2 = some res) : xC l yX6_codeOf wsX6_codeOf rmX6_codeOf D [.ref h, .int p1, .int p2] (wX6 cI cC cZ h a F G) (fun _ => (wX6 cI cC cZ h a F G)) (xT cI cC cZ) (fun t => some (.int t)) res := by
  have kX6 : ∀ w ∈ u_ws RX6 TX6 32, w ∈ wsX6_codeOf := by decide +kernel
  refine x_of (cc := cX6_codeOf) (maxL := 7) (ret := (some .int)) (by decide) rfl (Nat.le_of_ble_eq_true rfl) ?_
  intro p e s m args below meth c A Q ls S I E hl
  replace hl : lv_has ls 7 [(0, .ref h), (1, .int p1), (2, .int p2)] := hl
  replace hf := (fX6_codeOf_e _ _ _).symm.trans hf
  refine lv_iconst (v := 1) S.1 S.2.1 dX6_codeOf_0 (by decide) ?_
  refine lv_istore_n (lv' := [(3, .int 1), (0, .ref h), (1, .int p1), (2, .int p2)]) S.1 S.2.1 dX6_codeOf_1 rfl hl (by decide) rfl (fun ls hl => ?_)
  refine lv_iconst (v := 0) S.1 S.2.1 dX6_codeOf_2 (by decide) ?_
  refine lv_istore (lv' := [(4, .int 0), (3, .int 1), (0, .ref h), (1, .int p1), (2, .int p2)]) S.1 S.2.1 dX6_codeOf_3 hl (by decide) rfl (fun ls hl => ?_)
  have hx31 : ∀ (v1 : Int32) (H : Heap) (locs : List Loc) (ls : Array Slot), (fX6_codeOf_x31 G p1 p2) v1 = some res → xI D A s (wX6 cI cC cZ h a F G) (xT cI cC cZ) H locs → lv_has ls 7 [(3, .int v1), (0, .ref h), (1, .int p1), (2, .int p2)] → W p l e (headSpec wsX6_codeOf rmX6_codeOf).room s m args below meth c H locs 0 0 Q (F0 m 31 ls []) := by
    intro v1 H locs ls hf I hl
    replace hf := (fX6_codeOf_x31_e _ _ _ _).symm.trans hf
    refine lv_iconst (v := 0) S.1 S.2.1 dX6_codeOf_31 (by decide) ?_
    refine lv_istore (lv' := [(4, .int 0), (3, .int v1), (0, .ref h), (1, .int p1), (2, .int p2)]) S.1 S.2.1 dX6_codeOf_32 hl (by decide) rfl (fun ls hl => ?_)
    have hl34 : ∀ (n34 : Nat), ∀ (v2 : Int32) (H : Heap) (locs : List Loc) (ls : Array Slot), (fX6_codeOf_l34 G v1 p1 p2 n34) v2 = some res → xI D A s (wX6 cI cC cZ h a F G) (xT cI cC cZ) H locs → lv_has ls 7 [(4, .int v2), (3, .int v1), (0, .ref h), (1, .int p1), (2, .int p2)] → W p l e (headSpec wsX6_codeOf rmX6_codeOf).room s m args below meth c H locs 0 0 Q (F0 m 34 ls []) := by
      intro n34
      induction n34 with
      | zero =>
        intro v2 H locs ls hf I hl
        cases (fX6_codeOf_l34_z _ _ _ _ _).symm.trans hf
      | succ n34 ih34 =>
        intro v2 H locs ls hf I hl
        replace hf := (fX6_codeOf_l34_e _ _ _ _ _ _).symm.trans hf
        refine lv_iload S.1 S.2.1 dX6_codeOf_34 (lv_at hl 0 rfl) ?_
        refine lv_iload_n S.1 S.2.1 dX6_codeOf_36 rfl (lv_at hl 1 rfl) ?_
        refine lv_icmp_ge (tgt := 103) S.1 S.2.1 dX6_codeOf_37 (by decide) (fun c3 => ?_) (fun c3 => ?_)
        · replace hf := x_ifT hf c3
          refine lv_iconst (v := (-1)) S.1 S.2.1 dX6_codeOf_103 (by decide) ?_
          exact x_ri E rfl rfl hf rfl I rfl dX6_codeOf_104
        · replace hf := x_ifF hf c3
          refine lv_iconst (v := 1) S.1 S.2.1 dX6_codeOf_40 (by decide) ?_
          refine lv_istore (lv' := [(5, .int 1), (4, .int v2), (3, .int v1), (0, .ref h), (1, .int p1), (2, .int p2)]) S.1 S.2.1 dX6_codeOf_41 hl (by decide) rfl (fun ls hl => ?_)
          refine lv_iconst (v := 0) S.1 S.2.1 dX6_codeOf_43 (by decide) ?_
          refine lv_istore (lv' := [(6, .int 0), (5, .int 1), (4, .int v2), (3, .int v1), (0, .ref h), (1, .int p1), (2, .int p2)]) S.1 S.2.1 dX6_codeOf_44 hl (by decide) rfl (fun ls hl => ?_)
          have hx89 : ∀ (v4 : Int32) (H : Heap) (locs : List Loc) (ls : Array Slot), (fX6_codeOf_x89 (fX6_codeOf_l34 G v1 p1 p2 n34) v2) v4 = some res → xI D A s (wX6 cI cC cZ h a F G) (xT cI cC cZ) H locs → lv_has ls 7 [(5, .int v4), (4, .int v2), (3, .int v1), (0, .ref h), (1, .int p1), (2, .int p2)] → W p l e (headSpec wsX6_codeOf rmX6_codeOf).room s m args below meth c H locs 0 0 Q (F0 m 89 ls []) := by
            intro v4 H locs ls hf I hl
            replace hf := (fX6_codeOf_x89_e _ _ _).symm.trans hf
            refine lv_iload S.1 S.2.1 dX6_codeOf_89 (lv_at hl 0 rfl) ?_
            refine lv_if_eq (tgt := 97) S.1 S.2.1 dX6_codeOf_91 (by decide) (fun c5 => ?_) (fun c5 => ?_)
            · replace hf := x_ifT hf c5
              refine lv_iinc (v := (v2 + 1)) (lv' := [(4, .int (v2 + 1)), (5, .int v4), (3, .int v1), (0, .ref h), (1, .int p1), (2, .int p2)]) S.1 S.2.1 dX6_codeOf_97 hl (k := 1) rfl rfl (by decide) rfl (fun ls hl => ?_)
              refine lv_goto (tgt := 34) S.1 S.2.1 dX6_codeOf_100 (by decide) ?_
              exact ih34 (v2 + 1) _ _ _ hf I (lv_sub hl [0, 2, 3, 4, 5] rfl)
            · replace hf := x_ifF hf c5
              refine lv_iload S.1 S.2.1 dX6_codeOf_94 (lv_at hl 1 rfl) ?_
              exact x_ri E rfl rfl hf rfl I rfl dX6_codeOf_96
          have hl46 : ∀ (n46 : Nat), ∀ (v6 : Int32) (v7 : Int32) (H : Heap) (locs : List Loc) (ls : Array Slot), (fX6_codeOf_l46 (fX6_codeOf_l34 G v1 p1 p2 n34) G p1 v2 p2 n46) v6 v7 = some res → xI D A s (wX6 cI cC cZ h a F G) (xT cI cC cZ) H locs → lv_has ls 7 [(6, .int v7), (5, .int v6), (4, .int v2), (3, .int v1), (0, .ref h), (1, .int p1), (2, .int p2)] → W p l e (headSpec wsX6_codeOf rmX6_codeOf).room s m args below meth c H locs 0 0 Q (F0 m 46 ls []) := by
            intro n46
            induction n46 with
            | zero =>
              intro v6 v7 H locs ls hf I hl
              cases (fX6_codeOf_l46_z _ _ _ _ _ _ _).symm.trans hf
            | succ n46 ih46 =>
              intro v6 v7 H locs ls hf I hl
              replace hf := (fX6_codeOf_l46_e _ _ _ _ _ _ _ _).symm.trans hf
              refine lv_iload S.1 S.2.1 dX6_codeOf_46 (lv_at hl 0 rfl) ?_
              refine lv_aload_n S.1 S.2.1 dX6_codeOf_48 rfl (lv_at hl 4 rfl) ?_
              refine x_get (C := RX6) (T := TX6) (N := 32) (ci := 5) (v := .ref (a 28)) S kX6 rfl I 0 28 rfl (by decide) (by decide +kernel) rfl dX6_codeOf_49 ?_
              refine lv_iload_n S.1 S.2.1 dX6_codeOf_52 rfl (lv_at hl 5 rfl) ?_
              obtain ⟨hi8, hf⟩ := x_ldE hf
              refine x_iald (f := (G 28)) S I 20 0 rfl rfl hi8 dX6_codeOf_53 ?_
              refine lv_icmp_ge (tgt := 89) S.1 S.2.1 dX6_codeOf_54 (by decide) (fun c9 => ?_) (fun c9 => ?_)
              · replace hf := x_ifT hf c9
                exact hx89 v6 _ _ _ hf I (lv_sub hl [1, 2, 3, 4, 5, 6] rfl)
              · replace hf := x_ifF hf c9
                refine lv_iload S.1 S.2.1 dX6_codeOf_57 (lv_at hl 1 rfl) ?_
                have hj81 : ∀ (v10 : Int32) (H : Heap) (locs : List Loc) (ls : Array Slot), (fX6_codeOf_j81 (fX6_codeOf_l46 (fX6_codeOf_l34 G v1 p1 p2 n34) G p1 v2 p2 n46) v7) v10 = some res → xI D A s (wX6 cI cC cZ h a F G) (xT cI cC cZ) H locs → lv_has ls 7 [(6, .int v7), (4, .int v2), (3, .int v1), (0, .ref h), (1, .int p1), (2, .int p2)] → W p l e (headSpec wsX6_codeOf rmX6_codeOf).room s m args below meth c H locs 0 0 Q (F0 m 81 ls [.int v10]) := by
                  intro v10 H locs ls hf I hl
                  replace hf := (fX6_codeOf_j81_e _ _ _).symm.trans hf
                  refine lv_istore (lv' := [(5, .int v10), (6, .int v7), (4, .int v2), (3, .int v1), (0, .ref h), (1, .int p1), (2, .int p2)]) S.1 S.2.1 dX6_codeOf_81 hl (by decide) rfl (fun ls hl => ?_)
                  refine lv_iinc (v := (v7 + 1)) (lv' := [(6, .int (v7 + 1)), (5, .int v10), (4, .int v2), (3, .int v1), (0, .ref h), (1, .int p1), (2, .int p2)]) S.1 S.2.1 dX6_codeOf_83 hl (k := 1) rfl rfl (by decide) rfl (fun ls hl => ?_)
                  refine lv_goto (tgt := 46) S.1 S.2.1 dX6_codeOf_86 (by decide) ?_
                  exact ih46 v10 (v7 + 1) _ _ _ hf I (lv_sub hl [0, 1, 2, 3, 4, 5, 6] rfl)
                have hj80 : ∀  (H : Heap) (locs : List Loc) (ls : Array Slot), (fX6_codeOf_j80 (fX6_codeOf_l46 (fX6_codeOf_l34 G v1 p1 p2 n34) G p1 v2 p2 n46) v7) = some res → xI D A s (wX6 cI cC cZ h a F G) (xT cI cC cZ) H locs → lv_has ls 7 [(6, .int v7), (4, .int v2), (3, .int v1), (0, .ref h), (1, .int p1), (2, .int p2)] → W p l e (headSpec wsX6_codeOf rmX6_codeOf).room s m args below meth c H locs 0 0 Q (F0 m 80 ls []) := by
                  intro  H locs ls hf I hl
                  replace hf := (fX6_codeOf_j80_e _ _).symm.trans hf
                  refine lv_iconst (v := 0) S.1 S.2.1 dX6_codeOf_80 (by decide) ?_
                  exact hj81 0 _ _ _ hf I (lv_sub hl [0, 1, 2, 3, 4, 5] rfl)
                refine lv_if_eq (tgt := 80) S.1 S.2.1 dX6_codeOf_59 (by decide) (fun c11 => ?_) (fun c11 => ?_)
                · replace hf := x_ifT hf c11
                  exact hj80 _ _ _ hf I (lv_sub hl [0, 2, 3, 4, 5, 6] rfl)
                · replace hf := x_ifF hf c11
                  refine lv_aload_n S.1 S.2.1 dX6_codeOf_62 rfl (lv_at hl 4 rfl) ?_
                  refine lv_iload_n S.1 S.2.1 dX6_codeOf_63 rfl (lv_at hl 5 rfl) ?_
                  refine lv_iload_n S.1 S.2.1 dX6_codeOf_64 rfl (lv_at hl 6 rfl) ?_
                  refine lv_iload S.1 S.2.1 dX6_codeOf_65 (lv_at hl 2 rfl) ?_
                  refine lv_iload S.1 S.2.1 dX6_codeOf_67 (lv_at hl 0 rfl) ?_
                  obtain ⟨r13, hg12, hf⟩ := x_b1E hf
                  refine x_cA (As := [.int p1, .int p2, .int v2, .int v7]) (rest := []) (st' := [.int r13]) (ws' := (wX6 cI cC cZ h a F G)) S I (tX6_served l D cI cC cZ h a F G p1 p2 v2 v7 r13 hg12) (cwV 4 S.2.2.2.2 gX6_codeOf_X6_served rfl rfl rfl (by decide +kernel) ⟨Nat.le_of_ble_eq_true rfl, Nat.le_of_ble_eq_true rfl⟩) 0 5 rfl rfl rfl rfl hl rfl (Nat.le_of_ble_eq_true rfl) ⟨Nat.zero_le _, Nat.zero_le _⟩ rfl dX6_codeOf_69 (fun H locs I => ?_)
                  refine lv_iconst (v := (-1)) S.1 S.2.1 dX6_codeOf_72 (by decide) ?_
                  refine lv_icmp_eq (tgt := 80) S.1 S.2.1 dX6_codeOf_73 (by decide) (fun c14 => ?_) (fun c14 => ?_)
                  · replace hf := x_ifT hf c14
                    exact hj80 _ _ _ hf I (lv_sub hl [0, 2, 3, 4, 5, 6] rfl)
                  · replace hf := x_ifF hf c14
                    refine lv_iconst (v := 1) S.1 S.2.1 dX6_codeOf_76 (by decide) ?_
                    refine lv_goto (tgt := 81) S.1 S.2.1 dX6_codeOf_77 (by decide) ?_
                    exact hj81 1 _ _ _ hf I (lv_sub hl [0, 2, 3, 4, 5, 6] rfl)
          exact hl46 4096 1 0 _ _ _ hf I (lv_sub hl [0, 1, 2, 3, 4, 5, 6] rfl)
    exact hl34 4096 0 _ _ _ hf I (lv_sub hl [0, 1, 2, 3, 4] rfl)
  have hl5 : ∀ (n5 : Nat), ∀ (v15 : Int32) (v16 : Int32) (H : Heap) (locs : List Loc) (ls : Array Slot), (fX6_codeOf_l5 G p2 p1 n5) v15 v16 = some res → xI D A s (wX6 cI cC cZ h a F G) (xT cI cC cZ) H locs → lv_has ls 7 [(4, .int v16), (3, .int v15), (0, .ref h), (1, .int p1), (2, .int p2)] → W p l e (headSpec wsX6_codeOf rmX6_codeOf).room s m args below meth c H locs 0 0 Q (F0 m 5 ls []) := by
    intro n5
    induction n5 with
    | zero =>
      intro v15 v16 H locs ls hf I hl
      cases (fX6_codeOf_l5_z _ _ _ _ _).symm.trans hf
    | succ n5 ih5 =>
      intro v15 v16 H locs ls hf I hl
      replace hf := (fX6_codeOf_l5_e _ _ _ _ _ _).symm.trans hf
      refine lv_iload S.1 S.2.1 dX6_codeOf_5 (lv_at hl 0 rfl) ?_
      refine lv_aload_n S.1 S.2.1 dX6_codeOf_7 rfl (lv_at hl 2 rfl) ?_
      refine x_get (C := RX6) (T := TX6) (N := 32) (ci := 5) (v := .ref (a 29)) S kX6 rfl I 0 29 rfl (by decide) (by decide +kernel) rfl dX6_codeOf_8 ?_
      refine lv_iload_n S.1 S.2.1 dX6_codeOf_11 rfl (lv_at hl 4 rfl) ?_
      obtain ⟨hi17, hf⟩ := x_ldE hf
      refine x_iald (f := (G 29)) S I 21 0 rfl rfl hi17 dX6_codeOf_12 ?_
      refine lv_icmp_ge (tgt := 31) S.1 S.2.1 dX6_codeOf_13 (by decide) (fun c18 => ?_) (fun c18 => ?_)
      · replace hf := x_ifT hf c18
        exact hx31 v15 _ _ _ hf I (lv_sub hl [1, 2, 3, 4] rfl)
      · replace hf := x_ifF hf c18
        refine lv_iload_n S.1 S.2.1 dX6_codeOf_16 rfl (lv_at hl 1 rfl) ?_
        refine lv_aload_n S.1 S.2.1 dX6_codeOf_17 rfl (lv_at hl 2 rfl) ?_
        refine x_get (C := RX6) (T := TX6) (N := 32) (ci := 5) (v := .ref (a 29)) S kX6 rfl I 0 29 rfl (by decide) (by decide +kernel) rfl dX6_codeOf_18 ?_
        refine lv_iload_n S.1 S.2.1 dX6_codeOf_21 rfl (lv_at hl 3 rfl) ?_
        obtain ⟨hi19, hf⟩ := x_ldE hf
        refine x_iald (f := (G 29)) S I 21 0 rfl rfl hi19 dX6_codeOf_22 ?_
        refine lv_imul S.1 S.2.1 dX6_codeOf_23 ?_
        refine lv_istore_n (lv' := [(3, .int (v15 * ((G 29) p1.toNatClampNeg))), (4, .int v16), (0, .ref h), (1, .int p1), (2, .int p2)]) S.1 S.2.1 dX6_codeOf_24 rfl hl (by decide) rfl (fun ls hl => ?_)
        refine lv_iinc (v := (v16 + 1)) (lv' := [(4, .int (v16 + 1)), (3, .int (v15 * ((G 29) p1.toNatClampNeg))), (0, .ref h), (1, .int p1), (2, .int p2)]) S.1 S.2.1 dX6_codeOf_25 hl (k := 1) rfl rfl (by decide) rfl (fun ls hl => ?_)
        refine lv_goto (tgt := 5) S.1 S.2.1 dX6_codeOf_28 (by decide) ?_
        exact ih5 (v15 * ((G 29) p1.toNatClampNeg)) (v16 + 1) _ _ _ hf I (lv_sub hl [0, 1, 2, 3, 4] rfl)
  exact hl5 4096 1 0 _ _ _ hf I (lv_sub hl [0, 1, 2, 3, 4] rfl)
set_option maxHeartbeats 4000000 in
set_option maxRecDepth 100000 in
theorem tX6_reduces (l : Launch) (D : va_G) (cI cC cZ : ClassId) (h : Nat) (a : Nat → Nat) (F : xF) (G : xG) (p1 p2 : Int32) (res : Int32 × xF) (hf : fX6_reduces F G p1 p2 = some res) : xC l yX6_reduces wsX6_reduces rmX6_reduces D [.ref h, .int p1, .int p2] (wX6 cI cC cZ h a F G) (fun t => (wX6 cI cC cZ h a t.2 G)) (xT cI cC cZ) (fun t => some (.int t.1)) res := by
  refine x_of (cc := cX6_reduces) (maxL := 3) (ret := (some .int)) (by decide) rfl (Nat.le_of_ble_eq_true rfl) ?_
  intro p e s m args below meth c A Q ls S I E hl
  replace hl : lv_has ls 3 [(0, .ref h), (1, .int p1), (2, .int p2)] := hl
  replace hf := (fX6_reduces_e _ _ _ _).symm.trans hf
  refine lv_aload_n S.1 S.2.1 dX6_reduces_0 rfl (lv_at hl 0 rfl) ?_
  refine lv_aload_n S.1 S.2.1 dX6_reduces_1 rfl (lv_at hl 0 rfl) ?_
  refine lv_iload_n S.1 S.2.1 dX6_reduces_2 rfl (lv_at hl 1 rfl) ?_
  obtain ⟨r2, hg1, hf⟩ := x_b1E hf
  refine x_cA (As := [.int p1]) (rest := [.ref h]) (st' := [.int r2, .ref h]) (ws' := (wX6 cI cC cZ h a F G)) S I (tX6_isProblem l D cI cC cZ h a F G p1 r2 hg1) (cwV 1 S.2.2.2.2 gX6_reduces_X6_isProblem rfl rfl rfl (by decide +kernel) ⟨Nat.le_of_ble_eq_true rfl, Nat.le_of_ble_eq_true rfl⟩) 0 5 rfl rfl rfl rfl hl rfl (Nat.le_of_ble_eq_true rfl) ⟨Nat.zero_le _, Nat.zero_le _⟩ rfl dX6_reduces_3 (fun H locs I => ?_)
  have hj22 : ∀ (v3 : Int32) (H : Heap) (locs : List Loc) (ls : Array Slot), (fX6_reduces_j22 F G p1 p2) v3 = some res → xI D A s (wX6 cI cC cZ h a F G) (xT cI cC cZ) H locs → lv_has ls 3 [(0, .ref h), (1, .int p1), (2, .int p2)] → W p l e (headSpec wsX6_reduces rmX6_reduces).room s m args below meth c H locs 0 0 Q (F0 m 22 ls [.int v3, .ref h]) := by
    intro v3 H locs ls hf I hl
    replace hf := (fX6_reduces_j22_e _ _ _ _ _).symm.trans hf
    obtain ⟨r5, F6, hg4, hf⟩ := x_b2E hf
    refine x_cA (As := [.int v3]) (rest := []) (st' := [.int r5]) (ws' := (wX6 cI cC cZ h a F6 G)) S I (tX6_goesWell l D cI cC cZ h a F G v3 (r5, F6) hg4) (cwV 1 S.2.2.2.2 gX6_reduces_X6_goesWell rfl rfl rfl (by decide +kernel) ⟨Nat.le_of_ble_eq_true rfl, Nat.le_of_ble_eq_true rfl⟩) 0 5 rfl rfl rfl rfl hl rfl (Nat.le_of_ble_eq_true rfl) ⟨Nat.zero_le _, Nat.zero_le _⟩ rfl dX6_reduces_22 (fun H locs I => ?_)
    refine lv_if_eq (tgt := 37) S.1 S.2.1 dX6_reduces_25 (by decide) (fun c7 => ?_) (fun c7 => ?_)
    · replace hf := x_ifT hf c7
      refine lv_iconst (v := 0) S.1 S.2.1 dX6_reduces_37 (by decide) ?_
      exact x_ri E rfl rfl hf rfl I rfl dX6_reduces_38
    · replace hf := x_ifF hf c7
      refine lv_aload_n S.1 S.2.1 dX6_reduces_28 rfl (lv_at hl 0 rfl) ?_
      refine lv_iload_n S.1 S.2.1 dX6_reduces_29 rfl (lv_at hl 1 rfl) ?_
      refine lv_iload_n S.1 S.2.1 dX6_reduces_30 rfl (lv_at hl 2 rfl) ?_
      obtain ⟨r9, hg8, hf⟩ := x_b1E hf
      refine x_cA (As := [.int p1, .int p2]) (rest := []) (st' := [.int r9]) (ws' := (wX6 cI cC cZ h a F6 G)) S I (tX6_codeOf l D cI cC cZ h a F6 G p1 p2 r9 hg8) (cwV 2 S.2.2.2.2 gX6_reduces_X6_codeOf rfl rfl rfl (by decide +kernel) ⟨Nat.le_of_ble_eq_true rfl, Nat.le_of_ble_eq_true rfl⟩) 0 5 rfl rfl rfl rfl hl rfl (Nat.le_of_ble_eq_true rfl) ⟨Nat.zero_le _, Nat.zero_le _⟩ rfl dX6_reduces_31 (fun H locs I => ?_)
      refine lv_goto (tgt := 38) S.1 S.2.1 dX6_reduces_34 (by decide) ?_
      exact x_ri E rfl rfl hf rfl I rfl dX6_reduces_38
  have hj21 : ∀  (H : Heap) (locs : List Loc) (ls : Array Slot), (fX6_reduces_j21 F G p1 p2) = some res → xI D A s (wX6 cI cC cZ h a F G) (xT cI cC cZ) H locs → lv_has ls 3 [(0, .ref h), (1, .int p1), (2, .int p2)] → W p l e (headSpec wsX6_reduces rmX6_reduces).room s m args below meth c H locs 0 0 Q (F0 m 21 ls [.ref h]) := by
    intro  H locs ls hf I hl
    replace hf := (fX6_reduces_j21_e _ _ _ _).symm.trans hf
    refine lv_iconst (v := 1) S.1 S.2.1 dX6_reduces_21 (by decide) ?_
    exact hj22 1 _ _ _ hf I (lv_sub hl [0, 1, 2] rfl)
  refine lv_if_eq (tgt := 21) S.1 S.2.1 dX6_reduces_6 (by decide) (fun c10 => ?_) (fun c10 => ?_)
  · replace hf := x_ifT hf c10
    exact hj21 _ _ _ hf I (lv_sub hl [0, 1, 2] rfl)
  · replace hf := x_ifF hf c10
    refine lv_aload_n S.1 S.2.1 dX6_reduces_9 rfl (lv_at hl 0 rfl) ?_
    refine lv_iload_n S.1 S.2.1 dX6_reduces_10 rfl (lv_at hl 2 rfl) ?_
    obtain ⟨r12, hg11, hf⟩ := x_b1E hf
    refine x_cA (As := [.int p2]) (rest := [.ref h]) (st' := [.int r12, .ref h]) (ws' := (wX6 cI cC cZ h a F G)) S I (tX6_isProblem l D cI cC cZ h a F G p2 r12 hg11) (cwV 1 S.2.2.2.2 gX6_reduces_X6_isProblem rfl rfl rfl (by decide +kernel) ⟨Nat.le_of_ble_eq_true rfl, Nat.le_of_ble_eq_true rfl⟩) 0 5 rfl rfl rfl rfl hl rfl (Nat.le_of_ble_eq_true rfl) ⟨Nat.zero_le _, Nat.zero_le _⟩ rfl dX6_reduces_11 (fun H locs I => ?_)
    refine lv_if_eq (tgt := 21) S.1 S.2.1 dX6_reduces_14 (by decide) (fun c13 => ?_) (fun c13 => ?_)
    · replace hf := x_ifT hf c13
      exact hj21 _ _ _ hf I (lv_sub hl [0, 1, 2] rfl)
    · replace hf := x_ifF hf c13
      refine lv_iconst (v := 0) S.1 S.2.1 dX6_reduces_17 (by decide) ?_
      refine lv_goto (tgt := 22) S.1 S.2.1 dX6_reduces_18 (by decide) ?_
      exact hj22 0 _ _ _ hf I (lv_sub hl [0, 1, 2] rfl)
set_option maxHeartbeats 4000000 in
set_option maxRecDepth 100000 in
theorem tX6_reducesAnew (l : Launch) (D : va_G) (cI cC cZ : ClassId) (h : Nat) (a : Nat → Nat) (F : xF) (G : xG) (p1 p2 : Int32) (res : Int32 × xF) (hf : fX6_reducesAnew F G p1 p2 = some res) : xC l yX6_reducesAnew wsX6_reducesAnew rmX6_reducesAnew D [.ref h, .int p1, .int p2] (wX6 cI cC cZ h a F G) (fun t => (wX6 cI cC cZ h a t.2 G)) (xT cI cC cZ) (fun t => some (.int t.1)) res := by
  refine x_of (cc := cX6_reducesAnew) (maxL := 3) (ret := (some .int)) (by decide) rfl (Nat.le_of_ble_eq_true rfl) ?_
  intro p e s m args below meth c A Q ls S I E hl
  replace hl : lv_has ls 3 [(0, .ref h), (1, .int p1), (2, .int p2)] := hl
  replace hf := (fX6_reducesAnew_e _ _ _ _).symm.trans hf
  refine lv_aload_n S.1 S.2.1 dX6_reducesAnew_0 rfl (lv_at hl 0 rfl) ?_
  refine lv_aload_n S.1 S.2.1 dX6_reducesAnew_1 rfl (lv_at hl 0 rfl) ?_
  refine lv_iload_n S.1 S.2.1 dX6_reducesAnew_2 rfl (lv_at hl 1 rfl) ?_
  obtain ⟨r2, hg1, hf⟩ := x_b1E hf
  refine x_cA (As := [.int p1]) (rest := [.ref h]) (st' := [.int r2, .ref h]) (ws' := (wX6 cI cC cZ h a F G)) S I (tX6_isProblem l D cI cC cZ h a F G p1 r2 hg1) (cwV 1 S.2.2.2.2 gX6_reducesAnew_X6_isProblem rfl rfl rfl (by decide +kernel) ⟨Nat.le_of_ble_eq_true rfl, Nat.le_of_ble_eq_true rfl⟩) 0 5 rfl rfl rfl rfl hl rfl (Nat.le_of_ble_eq_true rfl) ⟨Nat.zero_le _, Nat.zero_le _⟩ rfl dX6_reducesAnew_3 (fun H locs I => ?_)
  have hj22 : ∀ (v3 : Int32) (H : Heap) (locs : List Loc) (ls : Array Slot), (fX6_reducesAnew_j22 F G p1 p2) v3 = some res → xI D A s (wX6 cI cC cZ h a F G) (xT cI cC cZ) H locs → lv_has ls 3 [(0, .ref h), (1, .int p1), (2, .int p2)] → W p l e (headSpec wsX6_reducesAnew rmX6_reducesAnew).room s m args below meth c H locs 0 0 Q (F0 m 22 ls [.int v3, .ref h]) := by
    intro v3 H locs ls hf I hl
    replace hf := (fX6_reducesAnew_j22_e _ _ _ _ _).symm.trans hf
    obtain ⟨r5, F6, hg4, hf⟩ := x_b2E hf
    refine x_cA (As := [.int v3]) (rest := []) (st' := [.int r5]) (ws' := (wX6 cI cC cZ h a F6 G)) S I (tX6_goesWell l D cI cC cZ h a F G v3 (r5, F6) hg4) (cwV 1 S.2.2.2.2 gX6_reducesAnew_X6_goesWell rfl rfl rfl (by decide +kernel) ⟨Nat.le_of_ble_eq_true rfl, Nat.le_of_ble_eq_true rfl⟩) 0 5 rfl rfl rfl rfl hl rfl (Nat.le_of_ble_eq_true rfl) ⟨Nat.zero_le _, Nat.zero_le _⟩ rfl dX6_reducesAnew_22 (fun H locs I => ?_)
    refine lv_if_eq (tgt := 37) S.1 S.2.1 dX6_reducesAnew_25 (by decide) (fun c7 => ?_) (fun c7 => ?_)
    · replace hf := x_ifT hf c7
      refine lv_iconst (v := 0) S.1 S.2.1 dX6_reducesAnew_37 (by decide) ?_
      exact x_ri E rfl rfl hf rfl I rfl dX6_reducesAnew_38
    · replace hf := x_ifF hf c7
      refine lv_aload_n S.1 S.2.1 dX6_reducesAnew_28 rfl (lv_at hl 0 rfl) ?_
      refine lv_iload_n S.1 S.2.1 dX6_reducesAnew_29 rfl (lv_at hl 1 rfl) ?_
      refine lv_iload_n S.1 S.2.1 dX6_reducesAnew_30 rfl (lv_at hl 2 rfl) ?_
      obtain ⟨r9, hg8, hf⟩ := x_b1E hf
      refine x_cA (As := [.int p1, .int p2]) (rest := []) (st' := [.int r9]) (ws' := (wX6 cI cC cZ h a F6 G)) S I (tX6_codeOf l D cI cC cZ h a F6 G p1 p2 r9 hg8) (cwV 2 S.2.2.2.2 gX6_reducesAnew_X6_codeOf rfl rfl rfl (by decide +kernel) ⟨Nat.le_of_ble_eq_true rfl, Nat.le_of_ble_eq_true rfl⟩) 0 5 rfl rfl rfl rfl hl rfl (Nat.le_of_ble_eq_true rfl) ⟨Nat.zero_le _, Nat.zero_le _⟩ rfl dX6_reducesAnew_31 (fun H locs I => ?_)
      refine lv_goto (tgt := 38) S.1 S.2.1 dX6_reducesAnew_34 (by decide) ?_
      exact x_ri E rfl rfl hf rfl I rfl dX6_reducesAnew_38
  have hj21 : ∀  (H : Heap) (locs : List Loc) (ls : Array Slot), (fX6_reducesAnew_j21 F G p1 p2) = some res → xI D A s (wX6 cI cC cZ h a F G) (xT cI cC cZ) H locs → lv_has ls 3 [(0, .ref h), (1, .int p1), (2, .int p2)] → W p l e (headSpec wsX6_reducesAnew rmX6_reducesAnew).room s m args below meth c H locs 0 0 Q (F0 m 21 ls [.ref h]) := by
    intro  H locs ls hf I hl
    replace hf := (fX6_reducesAnew_j21_e _ _ _ _).symm.trans hf
    refine lv_iconst (v := 1) S.1 S.2.1 dX6_reducesAnew_21 (by decide) ?_
    exact hj22 1 _ _ _ hf I (lv_sub hl [0, 1, 2] rfl)
  refine lv_if_eq (tgt := 21) S.1 S.2.1 dX6_reducesAnew_6 (by decide) (fun c10 => ?_) (fun c10 => ?_)
  · replace hf := x_ifT hf c10
    exact hj21 _ _ _ hf I (lv_sub hl [0, 1, 2] rfl)
  · replace hf := x_ifF hf c10
    refine lv_aload_n S.1 S.2.1 dX6_reducesAnew_9 rfl (lv_at hl 0 rfl) ?_
    refine lv_iload_n S.1 S.2.1 dX6_reducesAnew_10 rfl (lv_at hl 2 rfl) ?_
    obtain ⟨r12, hg11, hf⟩ := x_b1E hf
    refine x_cA (As := [.int p2]) (rest := [.ref h]) (st' := [.int r12, .ref h]) (ws' := (wX6 cI cC cZ h a F G)) S I (tX6_isProblem l D cI cC cZ h a F G p2 r12 hg11) (cwV 1 S.2.2.2.2 gX6_reducesAnew_X6_isProblem rfl rfl rfl (by decide +kernel) ⟨Nat.le_of_ble_eq_true rfl, Nat.le_of_ble_eq_true rfl⟩) 0 5 rfl rfl rfl rfl hl rfl (Nat.le_of_ble_eq_true rfl) ⟨Nat.zero_le _, Nat.zero_le _⟩ rfl dX6_reducesAnew_11 (fun H locs I => ?_)
    refine lv_if_eq (tgt := 21) S.1 S.2.1 dX6_reducesAnew_14 (by decide) (fun c13 => ?_) (fun c13 => ?_)
    · replace hf := x_ifT hf c13
      exact hj21 _ _ _ hf I (lv_sub hl [0, 1, 2] rfl)
    · replace hf := x_ifF hf c13
      refine lv_iconst (v := 0) S.1 S.2.1 dX6_reducesAnew_17 (by decide) ?_
      refine lv_goto (tgt := 22) S.1 S.2.1 dX6_reducesAnew_18 (by decide) ?_
      exact hj22 0 _ _ _ hf I (lv_sub hl [0, 1, 2] rfl)
set_option maxHeartbeats 4000000 in
set_option maxRecDepth 100000 in
theorem tX6_forth (l : Launch) (D : va_G) (cI cC cZ : ClassId) (h : Nat) (a : Nat → Nat) (F : xF) (G : xG) (p1 p2 p3 : Int32) (res : Int32 × xF) (hf : fX6_forth F G p1 p2 p3 = some res) : xC l yX6_forth wsX6_forth rmX6_forth D [.ref h, .int p1, .int p2, .int p3] (wX6 cI cC cZ h a F G) (fun t => (wX6 cI cC cZ h a t.2 G)) (xT cI cC cZ) (fun t => some (.int t.1)) res := by
  have kX6 : ∀ w ∈ u_ws RX6 TX6 32, w ∈ wsX6_forth := by decide +kernel
  refine x_of (cc := cX6_forth) (maxL := 6) (ret := (some .int)) (by decide) rfl (Nat.le_of_ble_eq_true rfl) ?_
  intro p e s m args below meth c A Q ls S I E hl
  replace hl : lv_has ls 6 [(0, .ref h), (1, .int p1), (2, .int p2), (3, .int p3)] := hl
  replace hf := (fX6_forth_e _ _ _ _ _).symm.trans hf
  refine lv_aload_n S.1 S.2.1 dX6_forth_0 rfl (lv_at hl 0 rfl) ?_
  refine lv_iload_n S.1 S.2.1 dX6_forth_1 rfl (lv_at hl 1 rfl) ?_
  obtain ⟨r2, hg1, hf⟩ := x_b1E hf
  refine x_cA (As := [.int p1]) (rest := []) (st' := [.int r2]) (ws' := (wX6 cI cC cZ h a F G)) S I (tX6_isProblem l D cI cC cZ h a F G p1 r2 hg1) (cwV 1 S.2.2.2.2 gX6_forth_X6_isProblem rfl rfl rfl (by decide +kernel) ⟨Nat.le_of_ble_eq_true rfl, Nat.le_of_ble_eq_true rfl⟩) 0 5 rfl rfl rfl rfl hl rfl (Nat.le_of_ble_eq_true rfl) ⟨Nat.zero_le _, Nat.zero_le _⟩ rfl dX6_forth_2 (fun H locs I => ?_)
  have hj37 : ∀ (v3 : Int32) (H : Heap) (locs : List Loc) (ls : Array Slot), (fX6_forth_j37 F G p1 p2 p3) v3 = some res → xI D A s (wX6 cI cC cZ h a F G) (xT cI cC cZ) H locs → lv_has ls 6 [(0, .ref h), (1, .int p1), (2, .int p2), (3, .int p3)] → W p l e (headSpec wsX6_forth rmX6_forth).room s m args below meth c H locs 0 0 Q (F0 m 37 ls [.int v3]) := by
    intro v3 H locs ls hf I hl
    replace hf := (fX6_forth_j37_e _ _ _ _ _ _).symm.trans hf
    refine lv_istore (lv' := [(4, .int v3), (0, .ref h), (1, .int p1), (2, .int p2), (3, .int p3)]) S.1 S.2.1 dX6_forth_37 hl (by decide) rfl (fun ls hl => ?_)
    refine lv_aload_n S.1 S.2.1 dX6_forth_39 rfl (lv_at hl 1 rfl) ?_
    refine lv_iload S.1 S.2.1 dX6_forth_40 (lv_at hl 0 rfl) ?_
    have hj50 : ∀ (v4 : Int32) (H : Heap) (locs : List Loc) (ls : Array Slot), (fX6_forth_j50 F G p1 p2 p3) v4 = some res → xI D A s (wX6 cI cC cZ h a F G) (xT cI cC cZ) H locs → lv_has ls 6 [(0, .ref h), (1, .int p1), (2, .int p2), (3, .int p3)] → W p l e (headSpec wsX6_forth rmX6_forth).room s m args below meth c H locs 0 0 Q (F0 m 50 ls [.int v4, .ref h]) := by
      intro v4 H locs ls hf I hl
      replace hf := (fX6_forth_j50_e _ _ _ _ _ _).symm.trans hf
      obtain ⟨r6, F7, hg5, hf⟩ := x_b2E hf
      refine x_cA (As := [.int v4]) (rest := []) (st' := [.int r6]) (ws' := (wX6 cI cC cZ h a F7 G)) S I (tX6_goesWell l D cI cC cZ h a F G v4 (r6, F7) hg5) (cwV 1 S.2.2.2.2 gX6_forth_X6_goesWell rfl rfl rfl (by decide +kernel) ⟨Nat.le_of_ble_eq_true rfl, Nat.le_of_ble_eq_true rfl⟩) 0 5 rfl rfl rfl rfl hl rfl (Nat.le_of_ble_eq_true rfl) ⟨Nat.zero_le _, Nat.zero_le _⟩ rfl dX6_forth_50 (fun H locs I => ?_)
      refine lv_if_ne (tgt := 58) S.1 S.2.1 dX6_forth_53 (by decide) (fun c8 => ?_) (fun c8 => ?_)
      · replace hf := x_ifF hf c8
        refine lv_aload_n S.1 S.2.1 dX6_forth_58 rfl (lv_at hl 0 rfl) ?_
        refine lv_iload_n S.1 S.2.1 dX6_forth_59 rfl (lv_at hl 1 rfl) ?_
        refine lv_iload_n S.1 S.2.1 dX6_forth_60 rfl (lv_at hl 2 rfl) ?_
        obtain ⟨r10, hg9, hf⟩ := x_b1E hf
        refine x_cA (As := [.int p1, .int p2]) (rest := []) (st' := [.int r10]) (ws' := (wX6 cI cC cZ h a F7 G)) S I (tX6_codeOf l D cI cC cZ h a F7 G p1 p2 r10 hg9) (cwV 2 S.2.2.2.2 gX6_forth_X6_codeOf rfl rfl rfl (by decide +kernel) ⟨Nat.le_of_ble_eq_true rfl, Nat.le_of_ble_eq_true rfl⟩) 0 5 rfl rfl rfl rfl hl rfl (Nat.le_of_ble_eq_true rfl) ⟨Nat.zero_le _, Nat.zero_le _⟩ rfl dX6_forth_61 (fun H locs I => ?_)
        refine lv_istore (lv' := [(5, .int r10), (0, .ref h), (1, .int p1), (2, .int p2), (3, .int p3)]) S.1 S.2.1 dX6_forth_64 hl (by decide) rfl (fun ls hl => ?_)
        refine lv_iload S.1 S.2.1 dX6_forth_66 (lv_at hl 0 rfl) ?_
        refine lv_iconst (v := (-1)) S.1 S.2.1 dX6_forth_68 (by decide) ?_
        refine lv_icmp_ne (tgt := 76) S.1 S.2.1 dX6_forth_69 (by decide) (fun c11 => ?_) (fun c11 => ?_)
        · replace hf := x_ifF hf c11
          refine lv_aload_n S.1 S.2.1 dX6_forth_76 rfl (lv_at hl 1 rfl) ?_
          refine lv_iload_n S.1 S.2.1 dX6_forth_77 rfl (lv_at hl 2 rfl) ?_
          refine lv_iload_n S.1 S.2.1 dX6_forth_78 rfl (lv_at hl 3 rfl) ?_
          refine lv_iload S.1 S.2.1 dX6_forth_79 (lv_at hl 0 rfl) ?_
          refine lv_iload_n S.1 S.2.1 dX6_forth_81 rfl (lv_at hl 4 rfl) ?_
          obtain ⟨r13, hg12, hf⟩ := x_b1E hf
          refine x_cA (As := [.int p1, .int p2, .int r10, .int p3]) (rest := []) (st' := [.int r13]) (ws' := (wX6 cI cC cZ h a F7 G)) S I (tX6_served l D cI cC cZ h a F7 G p1 p2 r10 p3 r13 hg12) (cwV 4 S.2.2.2.2 gX6_forth_X6_served rfl rfl rfl (by decide +kernel) ⟨Nat.le_of_ble_eq_true rfl, Nat.le_of_ble_eq_true rfl⟩) 0 5 rfl rfl rfl rfl hl rfl (Nat.le_of_ble_eq_true rfl) ⟨Nat.zero_le _, Nat.zero_le _⟩ rfl dX6_forth_82 (fun H locs I => ?_)
          exact x_ri E rfl rfl hf rfl I rfl dX6_forth_85
        · replace hf := x_ifT hf c11
          refine lv_iconst (v := (-1)) S.1 S.2.1 dX6_forth_72 (by decide) ?_
          refine lv_goto (tgt := 85) S.1 S.2.1 dX6_forth_73 (by decide) ?_
          exact x_ri E rfl rfl hf rfl I rfl dX6_forth_85
      · replace hf := x_ifT hf c8
        refine lv_iconst (v := 0) S.1 S.2.1 dX6_forth_56 (by decide) ?_
        exact x_ri E rfl rfl hf rfl I rfl dX6_forth_57
    refine lv_if_eq (tgt := 49) S.1 S.2.1 dX6_forth_42 (by decide) (fun c14 => ?_) (fun c14 => ?_)
    · replace hf := x_ifT hf c14
      refine lv_iconst (v := 1) S.1 S.2.1 dX6_forth_49 (by decide) ?_
      exact hj50 1 _ _ _ hf I (lv_sub hl [1, 2, 3, 4] rfl)
    · replace hf := x_ifF hf c14
      refine lv_iconst (v := 0) S.1 S.2.1 dX6_forth_45 (by decide) ?_
      refine lv_goto (tgt := 50) S.1 S.2.1 dX6_forth_46 (by decide) ?_
      exact hj50 0 _ _ _ hf I (lv_sub hl [1, 2, 3, 4] rfl)
  have hj36 : ∀  (H : Heap) (locs : List Loc) (ls : Array Slot), (fX6_forth_j36 F G p1 p2 p3) = some res → xI D A s (wX6 cI cC cZ h a F G) (xT cI cC cZ) H locs → lv_has ls 6 [(0, .ref h), (1, .int p1), (2, .int p2), (3, .int p3)] → W p l e (headSpec wsX6_forth rmX6_forth).room s m args below meth c H locs 0 0 Q (F0 m 36 ls []) := by
    intro  H locs ls hf I hl
    replace hf := (fX6_forth_j36_e _ _ _ _ _).symm.trans hf
    refine lv_iconst (v := 0) S.1 S.2.1 dX6_forth_36 (by decide) ?_
    exact hj37 0 _ _ _ hf I (lv_sub hl [0, 1, 2, 3] rfl)
  refine lv_if_eq (tgt := 36) S.1 S.2.1 dX6_forth_5 (by decide) (fun c15 => ?_) (fun c15 => ?_)
  · replace hf := x_ifT hf c15
    exact hj36 _ _ _ hf I (lv_sub hl [0, 1, 2, 3] rfl)
  · replace hf := x_ifF hf c15
    refine lv_aload_n S.1 S.2.1 dX6_forth_8 rfl (lv_at hl 0 rfl) ?_
    refine lv_iload_n S.1 S.2.1 dX6_forth_9 rfl (lv_at hl 2 rfl) ?_
    obtain ⟨r17, hg16, hf⟩ := x_b1E hf
    refine x_cA (As := [.int p2]) (rest := []) (st' := [.int r17]) (ws' := (wX6 cI cC cZ h a F G)) S I (tX6_isProblem l D cI cC cZ h a F G p2 r17 hg16) (cwV 1 S.2.2.2.2 gX6_forth_X6_isProblem rfl rfl rfl (by decide +kernel) ⟨Nat.le_of_ble_eq_true rfl, Nat.le_of_ble_eq_true rfl⟩) 0 5 rfl rfl rfl rfl hl rfl (Nat.le_of_ble_eq_true rfl) ⟨Nat.zero_le _, Nat.zero_le _⟩ rfl dX6_forth_10 (fun H locs I => ?_)
    refine lv_if_eq (tgt := 36) S.1 S.2.1 dX6_forth_13 (by decide) (fun c18 => ?_) (fun c18 => ?_)
    · replace hf := x_ifT hf c18
      exact hj36 _ _ _ hf I (lv_sub hl [0, 1, 2, 3] rfl)
    · replace hf := x_ifF hf c18
      refine lv_iload_n S.1 S.2.1 dX6_forth_16 rfl (lv_at hl 3 rfl) ?_
      refine lv_iconst (v := 0) S.1 S.2.1 dX6_forth_17 (by decide) ?_
      refine lv_aload_n S.1 S.2.1 dX6_forth_18 rfl (lv_at hl 0 rfl) ?_
      refine x_get (C := RX6) (T := TX6) (N := 32) (ci := 5) (v := .ref (a 28)) S kX6 rfl I 0 28 rfl (by decide) (by decide +kernel) rfl dX6_forth_19 ?_
      refine lv_iload_n S.1 S.2.1 dX6_forth_22 rfl (lv_at hl 1 rfl) ?_
      obtain ⟨hi19, hf⟩ := x_ldE hf
      refine x_iald (f := (G 28)) S I 20 0 rfl rfl hi19 dX6_forth_23 ?_
      refine lv_iconst (v := 1) S.1 S.2.1 dX6_forth_24 (by decide) ?_
      refine lv_isub S.1 S.2.1 dX6_forth_25 ?_
      obtain ⟨r21, hg20, hf⟩ := x_b1E hf
      refine x_c0 (As := [.int p3, .int 0, .int (((G 28) p1.toNatClampNeg) - 1)]) (rest := []) (st' := [.int r21]) S I rfl (tX6_in l D cI cC cZ p3 0 (((G 28) p1.toNatClampNeg) - 1) r21 hg20) (va_cwS 3 S.2.2.2.2 gX6_forth_X6_in rfl rfl rfl (by decide +kernel) ⟨Nat.le_of_ble_eq_true rfl, Nat.le_of_ble_eq_true rfl⟩) hl rfl (Nat.le_of_ble_eq_true rfl) ⟨Nat.zero_le _, Nat.zero_le _⟩ rfl dX6_forth_26 (fun H locs I => ?_)
      refine lv_if_eq (tgt := 36) S.1 S.2.1 dX6_forth_29 (by decide) (fun c22 => ?_) (fun c22 => ?_)
      · replace hf := x_ifT hf c22
        exact hj36 _ _ _ hf I (lv_sub hl [0, 1, 2, 3] rfl)
      · replace hf := x_ifF hf c22
        refine lv_iconst (v := 1) S.1 S.2.1 dX6_forth_32 (by decide) ?_
        refine lv_goto (tgt := 37) S.1 S.2.1 dX6_forth_33 (by decide) ?_
        exact hj37 1 _ _ _ hf I (lv_sub hl [0, 1, 2, 3] rfl)
set_option maxHeartbeats 4000000 in
set_option maxRecDepth 100000 in
theorem tX6_ofProblem (l : Launch) (D : va_G) (cI cC cZ : ClassId) (h : Nat) (a : Nat → Nat) (F : xF) (G : xG) (p1 p2 : Int32) (res : Int32 × xF) (hf : fX6_ofProblem F G p1 p2 = some res) : xC l yX6_ofProblem wsX6_ofProblem rmX6_ofProblem D [.ref h, .int p1, .int p2] (wX6 cI cC cZ h a F G) (fun t => (wX6 cI cC cZ h a t.2 G)) (xT cI cC cZ) (fun t => some (.int t.1)) res := by
  have kX6 : ∀ w ∈ u_ws RX6 TX6 32, w ∈ wsX6_ofProblem := by decide +kernel
  refine x_of (cc := cX6_ofProblem) (maxL := 4) (ret := (some .int)) (by decide) rfl (Nat.le_of_ble_eq_true rfl) ?_
  intro p e s m args below meth c A Q ls S I E hl
  replace hl : lv_has ls 4 [(0, .ref h), (1, .int p1), (2, .int p2)] := hl
  replace hf := (fX6_ofProblem_e _ _ _ _).symm.trans hf
  refine lv_aload_n S.1 S.2.1 dX6_ofProblem_0 rfl (lv_at hl 0 rfl) ?_
  refine lv_iload_n S.1 S.2.1 dX6_ofProblem_1 rfl (lv_at hl 1 rfl) ?_
  obtain ⟨r2, hg1, hf⟩ := x_b1E hf
  refine x_cA (As := [.int p1]) (rest := []) (st' := [.int r2]) (ws' := (wX6 cI cC cZ h a F G)) S I (tX6_isProblem l D cI cC cZ h a F G p1 r2 hg1) (cwV 1 S.2.2.2.2 gX6_ofProblem_X6_isProblem rfl rfl rfl (by decide +kernel) ⟨Nat.le_of_ble_eq_true rfl, Nat.le_of_ble_eq_true rfl⟩) 0 5 rfl rfl rfl rfl hl rfl (Nat.le_of_ble_eq_true rfl) ⟨Nat.zero_le _, Nat.zero_le _⟩ rfl dX6_ofProblem_2 (fun H locs I => ?_)
  refine lv_istore_n (lv' := [(3, .int r2), (0, .ref h), (1, .int p1), (2, .int p2)]) S.1 S.2.1 dX6_ofProblem_5 rfl hl (by decide) rfl (fun ls hl => ?_)
  refine lv_aload_n S.1 S.2.1 dX6_ofProblem_6 rfl (lv_at hl 1 rfl) ?_
  refine lv_iload_n S.1 S.2.1 dX6_ofProblem_7 rfl (lv_at hl 0 rfl) ?_
  have hj29 : ∀ (v3 : Int32) (H : Heap) (locs : List Loc) (ls : Array Slot), (fX6_ofProblem_j29 F G p2 p1) v3 = some res → xI D A s (wX6 cI cC cZ h a F G) (xT cI cC cZ) H locs → lv_has ls 4 [(0, .ref h), (1, .int p1), (2, .int p2)] → W p l e (headSpec wsX6_ofProblem rmX6_ofProblem).room s m args below meth c H locs 0 0 Q (F0 m 29 ls [.int v3, .ref h]) := by
    intro v3 H locs ls hf I hl
    replace hf := (fX6_ofProblem_j29_e _ _ _ _ _).symm.trans hf
    obtain ⟨r5, F6, hg4, hf⟩ := x_b2E hf
    refine x_cA (As := [.int v3]) (rest := []) (st' := [.int r5]) (ws' := (wX6 cI cC cZ h a F6 G)) S I (tX6_goesWell l D cI cC cZ h a F G v3 (r5, F6) hg4) (cwV 1 S.2.2.2.2 gX6_ofProblem_X6_goesWell rfl rfl rfl (by decide +kernel) ⟨Nat.le_of_ble_eq_true rfl, Nat.le_of_ble_eq_true rfl⟩) 0 5 rfl rfl rfl rfl hl rfl (Nat.le_of_ble_eq_true rfl) ⟨Nat.zero_le _, Nat.zero_le _⟩ rfl dX6_ofProblem_29 (fun H locs I => ?_)
    refine lv_if_ne (tgt := 37) S.1 S.2.1 dX6_ofProblem_32 (by decide) (fun c7 => ?_) (fun c7 => ?_)
    · replace hf := x_ifF hf c7
      refine lv_iload_n S.1 S.2.1 dX6_ofProblem_37 rfl (lv_at hl 2 rfl) ?_
      refine lv_if_ne (tgt := 50) S.1 S.2.1 dX6_ofProblem_38 (by decide) (fun c8 => ?_) (fun c8 => ?_)
      · replace hf := x_ifF hf c8
        refine lv_iload_n S.1 S.2.1 dX6_ofProblem_50 rfl (lv_at hl 2 rfl) ?_
        refine lv_iconst (v := 1) S.1 S.2.1 dX6_ofProblem_51 (by decide) ?_
        refine lv_icmp_ne (tgt := 64) S.1 S.2.1 dX6_ofProblem_52 (by decide) (fun c9 => ?_) (fun c9 => ?_)
        · replace hf := x_ifF hf c9
          refine lv_aload_n S.1 S.2.1 dX6_ofProblem_64 rfl (lv_at hl 0 rfl) ?_
          refine x_get (C := RX6) (T := TX6) (N := 32) (ci := 5) (v := .ref (a 30)) S kX6 rfl I 0 30 rfl (by decide) (by decide +kernel) rfl dX6_ofProblem_65 ?_
          refine lv_iload_n S.1 S.2.1 dX6_ofProblem_68 rfl (lv_at hl 1 rfl) ?_
          obtain ⟨hi10, hf⟩ := x_ldE hf
          refine x_iald (f := (G 30)) S I 22 0 rfl rfl hi10 dX6_ofProblem_69 ?_
          exact x_ri E rfl rfl hf rfl I rfl dX6_ofProblem_70
        · replace hf := x_ifT hf c9
          refine lv_aload_n S.1 S.2.1 dX6_ofProblem_55 rfl (lv_at hl 0 rfl) ?_
          refine x_get (C := RX6) (T := TX6) (N := 32) (ci := 5) (v := .ref (a 29)) S kX6 rfl I 0 29 rfl (by decide) (by decide +kernel) rfl dX6_ofProblem_56 ?_
          refine lv_iload_n S.1 S.2.1 dX6_ofProblem_59 rfl (lv_at hl 1 rfl) ?_
          obtain ⟨hi11, hf⟩ := x_ldE hf
          refine x_iald (f := (G 29)) S I 21 0 rfl rfl hi11 dX6_ofProblem_60 ?_
          refine lv_goto (tgt := 70) S.1 S.2.1 dX6_ofProblem_61 (by decide) ?_
          exact x_ri E rfl rfl hf rfl I rfl dX6_ofProblem_70
      · replace hf := x_ifT hf c8
        refine lv_aload_n S.1 S.2.1 dX6_ofProblem_41 rfl (lv_at hl 0 rfl) ?_
        refine x_get (C := RX6) (T := TX6) (N := 32) (ci := 5) (v := .ref (a 28)) S kX6 rfl I 0 28 rfl (by decide) (by decide +kernel) rfl dX6_ofProblem_42 ?_
        refine lv_iload_n S.1 S.2.1 dX6_ofProblem_45 rfl (lv_at hl 1 rfl) ?_
        obtain ⟨hi12, hf⟩ := x_ldE hf
        refine x_iald (f := (G 28)) S I 20 0 rfl rfl hi12 dX6_ofProblem_46 ?_
        refine lv_goto (tgt := 70) S.1 S.2.1 dX6_ofProblem_47 (by decide) ?_
        exact x_ri E rfl rfl hf rfl I rfl dX6_ofProblem_70
    · replace hf := x_ifT hf c7
      refine lv_iconst (v := 0) S.1 S.2.1 dX6_ofProblem_35 (by decide) ?_
      exact x_ri E rfl rfl hf rfl I rfl dX6_ofProblem_36
  refine lv_if_ne (tgt := 15) S.1 S.2.1 dX6_ofProblem_8 (by decide) (fun c13 => ?_) (fun c13 => ?_)
  · replace hf := x_ifF hf c13
    refine lv_iload_n S.1 S.2.1 dX6_ofProblem_15 rfl (lv_at hl 3 rfl) ?_
    refine lv_iconst (v := 0) S.1 S.2.1 dX6_ofProblem_16 (by decide) ?_
    refine lv_iconst (v := 2) S.1 S.2.1 dX6_ofProblem_17 (by decide) ?_
    obtain ⟨r15, hg14, hf⟩ := x_b1E hf
    refine x_c0 (As := [.int p2, .int 0, .int 2]) (rest := [.ref h]) (st' := [.int r15, .ref h]) S I rfl (tX6_in l D cI cC cZ p2 0 2 r15 hg14) (va_cwS 3 S.2.2.2.2 gX6_ofProblem_X6_in rfl rfl rfl (by decide +kernel) ⟨Nat.le_of_ble_eq_true rfl, Nat.le_of_ble_eq_true rfl⟩) hl rfl (Nat.le_of_ble_eq_true rfl) ⟨Nat.zero_le _, Nat.zero_le _⟩ rfl dX6_ofProblem_18 (fun H locs I => ?_)
    refine lv_if_eq (tgt := 28) S.1 S.2.1 dX6_ofProblem_21 (by decide) (fun c16 => ?_) (fun c16 => ?_)
    · replace hf := x_ifT hf c16
      refine lv_iconst (v := 2) S.1 S.2.1 dX6_ofProblem_28 (by decide) ?_
      exact hj29 2 _ _ _ hf I (lv_sub hl [1, 2, 3] rfl)
    · replace hf := x_ifF hf c16
      refine lv_iconst (v := 0) S.1 S.2.1 dX6_ofProblem_24 (by decide) ?_
      refine lv_goto (tgt := 29) S.1 S.2.1 dX6_ofProblem_25 (by decide) ?_
      exact hj29 0 _ _ _ hf I (lv_sub hl [1, 2, 3] rfl)
  · replace hf := x_ifT hf c13
    refine lv_iconst (v := 1) S.1 S.2.1 dX6_ofProblem_11 (by decide) ?_
    refine lv_goto (tgt := 29) S.1 S.2.1 dX6_ofProblem_12 (by decide) ?_
    exact hj29 1 _ _ _ hf I (lv_sub hl [1, 2, 3] rfl)
set_option maxHeartbeats 4000000 in
set_option maxRecDepth 100000 in
theorem tX6_isHad (l : Launch) (D : va_G) (cI cC cZ : ClassId) (h : Nat) (a : Nat → Nat) (F : xF) (G : xG) (p1 p2 : Int32) (res : Int32 × xG) (hf : fX6_isHad G p1 p2 = some res) : xC l yX6_isHad wsX6_isHad rmX6_isHad D [.ref h, .int p1, .int p2] (wX6 cI cC cZ h a F G) (fun t => (wX6 cI cC cZ h a F t.2)) (xT cI cC cZ) (fun t => some (.int t.1)) res := by
  have kX6 : ∀ w ∈ u_ws RX6 TX6 32, w ∈ wsX6_isHad := by decide +kernel
  refine x_of (cc := cX6_isHad) (maxL := 5) (ret := (some .boolean)) (by decide) rfl (Nat.le_of_ble_eq_true rfl) ?_
  intro p e s m args below meth c A Q ls S I E hl
  replace hl : lv_has ls 5 [(0, .ref h), (1, .int p1), (2, .int p2)] := hl
  replace hf := (fX6_isHad_e _ _ _).symm.trans hf
  refine lv_iconst (v := 0) S.1 S.2.1 dX6_isHad_0 (by decide) ?_
  refine lv_istore_n (lv' := [(3, .int 0), (0, .ref h), (1, .int p1), (2, .int p2)]) S.1 S.2.1 dX6_isHad_1 rfl hl (by decide) rfl (fun ls hl => ?_)
  have hx35 : ∀ (G1 : xG) (H : Heap) (locs : List Loc) (ls : Array Slot), (fX6_isHad_x35 p1) G1 = some res → xI D A s (wX6 cI cC cZ h a F G1) (xT cI cC cZ) H locs → lv_has ls 5 [(0, .ref h), (1, .int p1)] → W p l e (headSpec wsX6_isHad rmX6_isHad).room s m args below meth c H locs 0 0 Q (F0 m 35 ls []) := by
    intro G1 H locs ls hf I hl
    replace hf := (fX6_isHad_x35_e _ _).symm.trans hf
    refine lv_iload_n S.1 S.2.1 dX6_isHad_35 rfl (lv_at hl 1 rfl) ?_
    refine lv_iconst (v := 1) S.1 S.2.1 dX6_isHad_36 (by decide) ?_
    refine lv_isub S.1 S.2.1 dX6_isHad_37 ?_
    refine lv_istore_n (lv' := [(3, .int (p1 - 1)), (0, .ref h), (1, .int p1)]) S.1 S.2.1 dX6_isHad_38 rfl hl (by decide) rfl (fun ls hl => ?_)
    have hx144 : ∀ (G2 : xG) (H : Heap) (locs : List Loc) (ls : Array Slot), fX6_isHad_x144 G2 = some res → xI D A s (wX6 cI cC cZ h a F G2) (xT cI cC cZ) H locs → lv_has ls 5 [(0, .ref h)] → W p l e (headSpec wsX6_isHad rmX6_isHad).room s m args below meth c H locs 0 0 Q (F0 m 144 ls []) := by
      intro G2 H locs ls hf I hl
      replace hf := (fX6_isHad_x144_e _).symm.trans hf
      refine lv_aload_n S.1 S.2.1 dX6_isHad_144 rfl (lv_at hl 0 rfl) ?_
      refine x_get (C := RX6) (T := TX6) (N := 32) (ci := 5) (v := .ref (a 31)) S kX6 rfl I 0 31 rfl (by decide) (by decide +kernel) rfl dX6_isHad_145 ?_
      refine lv_iconst (v := 0) S.1 S.2.1 dX6_isHad_148 (by decide) ?_
      obtain ⟨hi3, hf⟩ := x_ldE hf
      refine x_zald (f := (G2 31)) S I 23 2 rfl rfl hi3 dX6_isHad_149 ?_
      exact x_ri E rfl rfl hf rfl I rfl dX6_isHad_150
    have hl39 : ∀ (n39 : Nat), ∀ (v4 : Int32) (G5 : xG) (H : Heap) (locs : List Loc) (ls : Array Slot), (fX6_isHad_l39 n39) v4 G5 = some res → xI D A s (wX6 cI cC cZ h a F G5) (xT cI cC cZ) H locs → lv_has ls 5 [(3, .int v4), (0, .ref h)] → W p l e (headSpec wsX6_isHad rmX6_isHad).room s m args below meth c H locs 0 0 Q (F0 m 39 ls []) := by
      intro n39
      induction n39 with
      | zero =>
        intro v4 G5 H locs ls hf I hl
        cases (fX6_isHad_l39_z _ _).symm.trans hf
      | succ n39 ih39 =>
        intro v4 G5 H locs ls hf I hl
        replace hf := (fX6_isHad_l39_e _ _ _).symm.trans hf
        refine lv_iload_n S.1 S.2.1 dX6_isHad_39 rfl (lv_at hl 0 rfl) ?_
        refine lv_if_lt (tgt := 144) S.1 S.2.1 dX6_isHad_40 (by decide) (fun c6 => ?_) (fun c6 => ?_)
        · replace hf := x_ifT hf c6
          exact hx144 G5 _ _ _ hf I (lv_sub hl [1] rfl)
        · replace hf := x_ifF hf c6
          refine lv_iconst (v := 0) S.1 S.2.1 dX6_isHad_43 (by decide) ?_
          refine lv_istore (lv' := [(4, .int 0), (3, .int v4), (0, .ref h)]) S.1 S.2.1 dX6_isHad_44 hl (by decide) rfl (fun ls hl => ?_)
          have hx138 : ∀ (G7 : xG) (H : Heap) (locs : List Loc) (ls : Array Slot), (fX6_isHad_x138 (fX6_isHad_l39 n39) v4) G7 = some res → xI D A s (wX6 cI cC cZ h a F G7) (xT cI cC cZ) H locs → lv_has ls 5 [(3, .int v4), (0, .ref h)] → W p l e (headSpec wsX6_isHad rmX6_isHad).room s m args below meth c H locs 0 0 Q (F0 m 138 ls []) := by
            intro G7 H locs ls hf I hl
            replace hf := (fX6_isHad_x138_e _ _ _).symm.trans hf
            refine lv_iinc (v := (v4 + (-1))) (lv' := [(3, .int (v4 + (-1))), (0, .ref h)]) S.1 S.2.1 dX6_isHad_138 hl (k := 0) rfl rfl (by decide) rfl (fun ls hl => ?_)
            refine lv_goto (tgt := 39) S.1 S.2.1 dX6_isHad_141 (by decide) ?_
            exact ih39 (v4 + (-1)) G7 _ _ _ hf I (lv_sub hl [0, 1] rfl)
          have hl46 : ∀ (n46 : Nat), ∀ (v8 : Int32) (G9 : xG) (H : Heap) (locs : List Loc) (ls : Array Slot), (fX6_isHad_l46 (fX6_isHad_l39 n39) v4 n46) v8 G9 = some res → xI D A s (wX6 cI cC cZ h a F G9) (xT cI cC cZ) H locs → lv_has ls 5 [(4, .int v8), (3, .int v4), (0, .ref h)] → W p l e (headSpec wsX6_isHad rmX6_isHad).room s m args below meth c H locs 0 0 Q (F0 m 46 ls []) := by
            intro n46
            induction n46 with
            | zero =>
              intro v8 G9 H locs ls hf I hl
              cases (fX6_isHad_l46_z _ _ _ _).symm.trans hf
            | succ n46 ih46 =>
              intro v8 G9 H locs ls hf I hl
              replace hf := (fX6_isHad_l46_e _ _ _ _ _).symm.trans hf
              refine lv_iload S.1 S.2.1 dX6_isHad_46 (lv_at hl 0 rfl) ?_
              refine lv_iconst (v := 1) S.1 S.2.1 dX6_isHad_48 (by decide) ?_
              refine lv_iload_n S.1 S.2.1 dX6_isHad_49 rfl (lv_at hl 1 rfl) ?_
              refine lv_ishl S.1 S.2.1 dX6_isHad_50 ?_
              refine lv_icmp_ge (tgt := 138) S.1 S.2.1 dX6_isHad_51 (by decide) (fun c10 => ?_) (fun c10 => ?_)
              · replace hf := x_ifT hf c10
                exact hx138 G9 _ _ _ hf I (lv_sub hl [1, 2] rfl)
              · replace hf := x_ifF hf c10
                refine lv_aload_n S.1 S.2.1 dX6_isHad_54 rfl (lv_at hl 2 rfl) ?_
                refine x_get (C := RX6) (T := TX6) (N := 32) (ci := 5) (v := .ref (a 31)) S kX6 rfl I 0 31 rfl (by decide) (by decide +kernel) rfl dX6_isHad_55 ?_
                refine lv_iload S.1 S.2.1 dX6_isHad_58 (lv_at hl 0 rfl) ?_
                refine lv_iload_n S.1 S.2.1 dX6_isHad_60 rfl (lv_at hl 1 rfl) ?_
                refine lv_iconst (v := 2) S.1 S.2.1 dX6_isHad_61 (by decide) ?_
                obtain ⟨hz11, hf⟩ := x_dvE hf
                refine lv_irem S.1 S.2.1 dX6_isHad_62 hz11 ?_
                have hj131 : ∀ (v12 : Int32) (H : Heap) (locs : List Loc) (ls : Array Slot), (fX6_isHad_j131 (fX6_isHad_l46 (fX6_isHad_l39 n39) v4 n46) G9 v8) v12 = some res → xI D A s (wX6 cI cC cZ h a F G9) (xT cI cC cZ) H locs → lv_has ls 5 [(4, .int v8), (3, .int v4), (0, .ref h)] → W p l e (headSpec wsX6_isHad rmX6_isHad).room s m args below meth c H locs 0 0 Q (F0 m 131 ls [.int v12, .int v8, .ref (a 31)]) := by
                  intro v12 H locs ls hf I hl
                  replace hf := (fX6_isHad_j131_e _ _ _ _).symm.trans hf
                  obtain ⟨hi13, hf⟩ := x_ldE hf
                  refine x_zast (f := (G9 31)) (ws' := (wX6 cI cC cZ h a F (va_up G9 31 (upd (G9 31) v8.toNatClampNeg (x_zn v12))))) S I 23 2 rfl rfl hi13 rfl dX6_isHad_131 (fun H locs I => ?_)
                  refine lv_iinc (v := (v8 + 1)) (lv' := [(4, .int (v8 + 1)), (3, .int v4), (0, .ref h)]) S.1 S.2.1 dX6_isHad_132 hl (k := 0) rfl rfl (by decide) rfl (fun ls hl => ?_)
                  refine lv_goto (tgt := 46) S.1 S.2.1 dX6_isHad_135 (by decide) ?_
                  exact ih46 (v8 + 1) (va_up G9 31 (upd (G9 31) v8.toNatClampNeg (x_zn v12))) _ _ _ hf I (lv_sub hl [0, 1, 2] rfl)
                refine lv_if_ne (tgt := 100) S.1 S.2.1 dX6_isHad_63 (by decide) (fun c14 => ?_) (fun c14 => ?_)
                · replace hf := x_ifF hf c14
                  refine lv_aload_n S.1 S.2.1 dX6_isHad_100 rfl (lv_at hl 2 rfl) ?_
                  refine x_get (C := RX6) (T := TX6) (N := 32) (ci := 5) (v := .ref (a 31)) S kX6 rfl I 0 31 rfl (by decide) (by decide +kernel) rfl dX6_isHad_101 ?_
                  refine lv_iconst (v := 2) S.1 S.2.1 dX6_isHad_104 (by decide) ?_
                  refine lv_iload S.1 S.2.1 dX6_isHad_105 (lv_at hl 0 rfl) ?_
                  refine lv_imul S.1 S.2.1 dX6_isHad_107 ?_
                  obtain ⟨hi15, hf⟩ := x_ldE hf
                  refine x_zald (f := (G9 31)) S I 23 2 rfl rfl hi15 dX6_isHad_108 ?_
                  have hj130 : ∀  (H : Heap) (locs : List Loc) (ls : Array Slot), (fX6_isHad_j130 (fX6_isHad_l46 (fX6_isHad_l39 n39) v4 n46) G9 v8) = some res → xI D A s (wX6 cI cC cZ h a F G9) (xT cI cC cZ) H locs → lv_has ls 5 [(4, .int v8), (3, .int v4), (0, .ref h)] → W p l e (headSpec wsX6_isHad rmX6_isHad).room s m args below meth c H locs 0 0 Q (F0 m 130 ls [.int v8, .ref (a 31)]) := by
                    intro  H locs ls hf I hl
                    replace hf := (fX6_isHad_j130_e _ _ _).symm.trans hf
                    refine lv_iconst (v := 0) S.1 S.2.1 dX6_isHad_130 (by decide) ?_
                    exact hj131 0 _ _ _ hf I (lv_sub hl [0, 1, 2] rfl)
                  refine lv_if_eq (tgt := 130) S.1 S.2.1 dX6_isHad_109 (by decide) (fun c16 => ?_) (fun c16 => ?_)
                  · replace hf := x_ifT hf c16
                    exact hj130 _ _ _ hf I (lv_sub hl [0, 1, 2] rfl)
                  · replace hf := x_ifF hf c16
                    refine lv_aload_n S.1 S.2.1 dX6_isHad_112 rfl (lv_at hl 2 rfl) ?_
                    refine x_get (C := RX6) (T := TX6) (N := 32) (ci := 5) (v := .ref (a 31)) S kX6 rfl I 0 31 rfl (by decide) (by decide +kernel) rfl dX6_isHad_113 ?_
                    refine lv_iconst (v := 2) S.1 S.2.1 dX6_isHad_116 (by decide) ?_
                    refine lv_iload S.1 S.2.1 dX6_isHad_117 (lv_at hl 0 rfl) ?_
                    refine lv_imul S.1 S.2.1 dX6_isHad_119 ?_
                    refine lv_iconst (v := 1) S.1 S.2.1 dX6_isHad_120 (by decide) ?_
                    refine lv_iadd S.1 S.2.1 dX6_isHad_121 ?_
                    obtain ⟨hi17, hf⟩ := x_ldE hf
                    refine x_zald (f := (G9 31)) S I 23 2 rfl rfl hi17 dX6_isHad_122 ?_
                    refine lv_if_eq (tgt := 130) S.1 S.2.1 dX6_isHad_123 (by decide) (fun c18 => ?_) (fun c18 => ?_)
                    · replace hf := x_ifT hf c18
                      exact hj130 _ _ _ hf I (lv_sub hl [0, 1, 2] rfl)
                    · replace hf := x_ifF hf c18
                      refine lv_iconst (v := 1) S.1 S.2.1 dX6_isHad_126 (by decide) ?_
                      refine lv_goto (tgt := 131) S.1 S.2.1 dX6_isHad_127 (by decide) ?_
                      exact hj131 1 _ _ _ hf I (lv_sub hl [0, 1, 2] rfl)
                · replace hf := x_ifT hf c14
                  refine lv_aload_n S.1 S.2.1 dX6_isHad_66 rfl (lv_at hl 2 rfl) ?_
                  refine x_get (C := RX6) (T := TX6) (N := 32) (ci := 5) (v := .ref (a 31)) S kX6 rfl I 0 31 rfl (by decide) (by decide +kernel) rfl dX6_isHad_67 ?_
                  refine lv_iconst (v := 2) S.1 S.2.1 dX6_isHad_70 (by decide) ?_
                  refine lv_iload S.1 S.2.1 dX6_isHad_71 (lv_at hl 0 rfl) ?_
                  refine lv_imul S.1 S.2.1 dX6_isHad_73 ?_
                  obtain ⟨hi19, hf⟩ := x_ldE hf
                  refine x_zald (f := (G9 31)) S I 23 2 rfl rfl hi19 dX6_isHad_74 ?_
                  have hj92 : ∀  (H : Heap) (locs : List Loc) (ls : Array Slot), (fX6_isHad_j92 (fX6_isHad_l46 (fX6_isHad_l39 n39) v4 n46) G9 v8) = some res → xI D A s (wX6 cI cC cZ h a F G9) (xT cI cC cZ) H locs → lv_has ls 5 [(4, .int v8), (3, .int v4), (0, .ref h)] → W p l e (headSpec wsX6_isHad rmX6_isHad).room s m args below meth c H locs 0 0 Q (F0 m 92 ls [.int v8, .ref (a 31)]) := by
                    intro  H locs ls hf I hl
                    replace hf := (fX6_isHad_j92_e _ _ _).symm.trans hf
                    refine lv_iconst (v := 1) S.1 S.2.1 dX6_isHad_92 (by decide) ?_
                    refine lv_goto (tgt := 131) S.1 S.2.1 dX6_isHad_93 (by decide) ?_
                    exact hj131 1 _ _ _ hf I (lv_sub hl [0, 1, 2] rfl)
                  refine lv_if_ne (tgt := 92) S.1 S.2.1 dX6_isHad_75 (by decide) (fun c20 => ?_) (fun c20 => ?_)
                  · replace hf := x_ifF hf c20
                    exact hj92 _ _ _ hf I (lv_sub hl [0, 1, 2] rfl)
                  · replace hf := x_ifT hf c20
                    refine lv_aload_n S.1 S.2.1 dX6_isHad_78 rfl (lv_at hl 2 rfl) ?_
                    refine x_get (C := RX6) (T := TX6) (N := 32) (ci := 5) (v := .ref (a 31)) S kX6 rfl I 0 31 rfl (by decide) (by decide +kernel) rfl dX6_isHad_79 ?_
                    refine lv_iconst (v := 2) S.1 S.2.1 dX6_isHad_82 (by decide) ?_
                    refine lv_iload S.1 S.2.1 dX6_isHad_83 (lv_at hl 0 rfl) ?_
                    refine lv_imul S.1 S.2.1 dX6_isHad_85 ?_
                    refine lv_iconst (v := 1) S.1 S.2.1 dX6_isHad_86 (by decide) ?_
                    refine lv_iadd S.1 S.2.1 dX6_isHad_87 ?_
                    obtain ⟨hi21, hf⟩ := x_ldE hf
                    refine x_zald (f := (G9 31)) S I 23 2 rfl rfl hi21 dX6_isHad_88 ?_
                    refine lv_if_eq (tgt := 96) S.1 S.2.1 dX6_isHad_89 (by decide) (fun c22 => ?_) (fun c22 => ?_)
                    · replace hf := x_ifT hf c22
                      refine lv_iconst (v := 0) S.1 S.2.1 dX6_isHad_96 (by decide) ?_
                      refine lv_goto (tgt := 131) S.1 S.2.1 dX6_isHad_97 (by decide) ?_
                      exact hj131 0 _ _ _ hf I (lv_sub hl [0, 1, 2] rfl)
                    · replace hf := x_ifF hf c22
                      exact hj92 _ _ _ hf I (lv_sub hl [0, 1, 2] rfl)
          exact hl46 4096 0 G5 _ _ _ hf I (lv_sub hl [0, 1, 2] rfl)
    exact hl39 4096 (p1 - 1) G1 _ _ _ hf I (lv_sub hl [0, 1] rfl)
  have hl2 : ∀ (n2 : Nat), ∀ (v23 : Int32) (G24 : xG) (H : Heap) (locs : List Loc) (ls : Array Slot), (fX6_isHad_l2 p1 p2 n2) v23 G24 = some res → xI D A s (wX6 cI cC cZ h a F G24) (xT cI cC cZ) H locs → lv_has ls 5 [(3, .int v23), (0, .ref h), (1, .int p1), (2, .int p2)] → W p l e (headSpec wsX6_isHad rmX6_isHad).room s m args below meth c H locs 0 0 Q (F0 m 2 ls []) := by
    intro n2
    induction n2 with
    | zero =>
      intro v23 G24 H locs ls hf I hl
      cases (fX6_isHad_l2_z _ _ _ _).symm.trans hf
    | succ n2 ih2 =>
      intro v23 G24 H locs ls hf I hl
      replace hf := (fX6_isHad_l2_e _ _ _ _ _).symm.trans hf
      refine lv_iload_n S.1 S.2.1 dX6_isHad_2 rfl (lv_at hl 0 rfl) ?_
      refine lv_iconst (v := 1) S.1 S.2.1 dX6_isHad_3 (by decide) ?_
      refine lv_iload_n S.1 S.2.1 dX6_isHad_4 rfl (lv_at hl 2 rfl) ?_
      refine lv_ishl S.1 S.2.1 dX6_isHad_5 ?_
      refine lv_icmp_ge (tgt := 35) S.1 S.2.1 dX6_isHad_6 (by decide) (fun c25 => ?_) (fun c25 => ?_)
      · replace hf := x_ifT hf c25
        exact hx35 G24 _ _ _ hf I (lv_sub hl [1, 2] rfl)
      · replace hf := x_ifF hf c25
        refine lv_aload_n S.1 S.2.1 dX6_isHad_9 rfl (lv_at hl 1 rfl) ?_
        refine x_get (C := RX6) (T := TX6) (N := 32) (ci := 5) (v := .ref (a 31)) S kX6 rfl I 0 31 rfl (by decide) (by decide +kernel) rfl dX6_isHad_10 ?_
        refine lv_iload_n S.1 S.2.1 dX6_isHad_13 rfl (lv_at hl 0 rfl) ?_
        refine lv_iload_n S.1 S.2.1 dX6_isHad_14 rfl (lv_at hl 3 rfl) ?_
        refine lv_iload_n S.1 S.2.1 dX6_isHad_15 rfl (lv_at hl 0 rfl) ?_
        refine lv_ishr S.1 S.2.1 dX6_isHad_16 ?_
        refine lv_iconst (v := 1) S.1 S.2.1 dX6_isHad_17 (by decide) ?_
        refine lv_iand S.1 S.2.1 dX6_isHad_18 ?_
        refine lv_iconst (v := 1) S.1 S.2.1 dX6_isHad_19 (by decide) ?_
        have hj28 : ∀ (v26 : Int32) (H : Heap) (locs : List Loc) (ls : Array Slot), (fX6_isHad_j28 (fX6_isHad_l2 p1 p2 n2) G24 v23) v26 = some res → xI D A s (wX6 cI cC cZ h a F G24) (xT cI cC cZ) H locs → lv_has ls 5 [(3, .int v23), (0, .ref h), (1, .int p1), (2, .int p2)] → W p l e (headSpec wsX6_isHad rmX6_isHad).room s m args below meth c H locs 0 0 Q (F0 m 28 ls [.int v26, .int v23, .ref (a 31)]) := by
          intro v26 H locs ls hf I hl
          replace hf := (fX6_isHad_j28_e _ _ _ _).symm.trans hf
          obtain ⟨hi27, hf⟩ := x_ldE hf
          refine x_zast (f := (G24 31)) (ws' := (wX6 cI cC cZ h a F (va_up G24 31 (upd (G24 31) v23.toNatClampNeg (x_zn v26))))) S I 23 2 rfl rfl hi27 rfl dX6_isHad_28 (fun H locs I => ?_)
          refine lv_iinc (v := (v23 + 1)) (lv' := [(3, .int (v23 + 1)), (0, .ref h), (1, .int p1), (2, .int p2)]) S.1 S.2.1 dX6_isHad_29 hl (k := 0) rfl rfl (by decide) rfl (fun ls hl => ?_)
          refine lv_goto (tgt := 2) S.1 S.2.1 dX6_isHad_32 (by decide) ?_
          exact ih2 (v23 + 1) (va_up G24 31 (upd (G24 31) v23.toNatClampNeg (x_zn v26))) _ _ _ hf I (lv_sub hl [0, 1, 2, 3] rfl)
        refine lv_icmp_ne (tgt := 27) S.1 S.2.1 dX6_isHad_20 (by decide) (fun c28 => ?_) (fun c28 => ?_)
        · replace hf := x_ifF hf c28
          refine lv_iconst (v := 0) S.1 S.2.1 dX6_isHad_27 (by decide) ?_
          exact hj28 0 _ _ _ hf I (lv_sub hl [0, 1, 2, 3] rfl)
        · replace hf := x_ifT hf c28
          refine lv_iconst (v := 1) S.1 S.2.1 dX6_isHad_23 (by decide) ?_
          refine lv_goto (tgt := 28) S.1 S.2.1 dX6_isHad_24 (by decide) ?_
          exact hj28 1 _ _ _ hf I (lv_sub hl [0, 1, 2, 3] rfl)
  exact hl2 4096 0 G _ _ _ hf I (lv_sub hl [0, 1, 2, 3] rfl)
set_option maxHeartbeats 4000000 in
set_option maxRecDepth 100000 in
theorem tX6_ask (l : Launch) (D : va_G) (cI cC cZ : ClassId) (h : Nat) (a : Nat → Nat) (F : xF) (G : xG) (p1 p2 : Int32) (res : Int32 × xF × xG) (hf : fX6_ask F G p1 p2 = some res) : xC l yX6_ask wsX6_ask rmX6_ask D [.ref h, .int p1, .int p2] (wX6 cI cC cZ h a F G) (fun t => (wX6 cI cC cZ h a t.2.1 t.2.2)) (xT cI cC cZ) (fun t => some (.int t.1)) res := by
  refine x_of (cc := cX6_ask) (maxL := 4) (ret := (some .boolean)) (by decide) rfl (Nat.le_of_ble_eq_true rfl) ?_
  intro p e s m args below meth c A Q ls S I E hl
  replace hl : lv_has ls 4 [(0, .ref h), (1, .int p1), (2, .int p2)] := hl
  replace hf := (fX6_ask_e _ _ _ _).symm.trans hf
  refine lv_iload_n S.1 S.2.1 dX6_ask_0 rfl (lv_at hl 1 rfl) ?_
  refine lv_iconst (v := 1) S.1 S.2.1 dX6_ask_1 (by decide) ?_
  refine lv_iconst (v := 4) S.1 S.2.1 dX6_ask_2 (by decide) ?_
  obtain ⟨r2, hg1, hf⟩ := x_b1E hf
  refine x_c0 (As := [.int p1, .int 1, .int 4]) (rest := []) (st' := [.int r2]) S I rfl (tX6_in l D cI cC cZ p1 1 4 r2 hg1) (va_cwS 3 S.2.2.2.2 gX6_ask_X6_in rfl rfl rfl (by decide +kernel) ⟨Nat.le_of_ble_eq_true rfl, Nat.le_of_ble_eq_true rfl⟩) hl rfl (Nat.le_of_ble_eq_true rfl) ⟨Nat.zero_le _, Nat.zero_le _⟩ rfl dX6_ask_3 (fun H locs I => ?_)
  have hj29 : ∀ (v3 : Int32) (H : Heap) (locs : List Loc) (ls : Array Slot), (fX6_ask_j29 F G p1 p2) v3 = some res → xI D A s (wX6 cI cC cZ h a F G) (xT cI cC cZ) H locs → lv_has ls 4 [(0, .ref h), (1, .int p1), (2, .int p2)] → W p l e (headSpec wsX6_ask rmX6_ask).room s m args below meth c H locs 0 0 Q (F0 m 29 ls [.int v3]) := by
    intro v3 H locs ls hf I hl
    replace hf := (fX6_ask_j29_e _ _ _ _ _).symm.trans hf
    refine lv_istore_n (lv' := [(3, .int v3), (0, .ref h), (1, .int p1), (2, .int p2)]) S.1 S.2.1 dX6_ask_29 rfl hl (by decide) rfl (fun ls hl => ?_)
    refine lv_aload_n S.1 S.2.1 dX6_ask_30 rfl (lv_at hl 1 rfl) ?_
    refine lv_iload_n S.1 S.2.1 dX6_ask_31 rfl (lv_at hl 0 rfl) ?_
    have hj40 : ∀ (v4 : Int32) (H : Heap) (locs : List Loc) (ls : Array Slot), (fX6_ask_j40 F G p1 p2) v4 = some res → xI D A s (wX6 cI cC cZ h a F G) (xT cI cC cZ) H locs → lv_has ls 4 [(0, .ref h), (1, .int p1), (2, .int p2)] → W p l e (headSpec wsX6_ask rmX6_ask).room s m args below meth c H locs 0 0 Q (F0 m 40 ls [.int v4, .ref h]) := by
      intro v4 H locs ls hf I hl
      replace hf := (fX6_ask_j40_e _ _ _ _ _).symm.trans hf
      obtain ⟨r6, F7, hg5, hf⟩ := x_b2E hf
      refine x_cA (As := [.int v4]) (rest := []) (st' := [.int r6]) (ws' := (wX6 cI cC cZ h a F7 G)) S I (tX6_goesWell l D cI cC cZ h a F G v4 (r6, F7) hg5) (cwV 1 S.2.2.2.2 gX6_ask_X6_goesWell rfl rfl rfl (by decide +kernel) ⟨Nat.le_of_ble_eq_true rfl, Nat.le_of_ble_eq_true rfl⟩) 0 5 rfl rfl rfl rfl hl rfl (Nat.le_of_ble_eq_true rfl) ⟨Nat.zero_le _, Nat.zero_le _⟩ rfl dX6_ask_40 (fun H locs I => ?_)
      refine lv_if_eq (tgt := 59) S.1 S.2.1 dX6_ask_43 (by decide) (fun c8 => ?_) (fun c8 => ?_)
      · replace hf := x_ifT hf c8
        refine lv_iconst (v := 0) S.1 S.2.1 dX6_ask_59 (by decide) ?_
        exact x_ri E rfl x_n0 hf rfl I rfl dX6_ask_60
      · replace hf := x_ifF hf c8
        refine lv_aload_n S.1 S.2.1 dX6_ask_46 rfl (lv_at hl 0 rfl) ?_
        refine lv_iload_n S.1 S.2.1 dX6_ask_47 rfl (lv_at hl 1 rfl) ?_
        refine lv_iload_n S.1 S.2.1 dX6_ask_48 rfl (lv_at hl 2 rfl) ?_
        obtain ⟨r10, G11, hg9, hf⟩ := x_b2E hf
        refine x_cA (As := [.int p1, .int p2]) (rest := []) (st' := [.int r10]) (ws' := (wX6 cI cC cZ h a F7 G11)) S I (tX6_isHad l D cI cC cZ h a F7 G p1 p2 (r10, G11) hg9) (cwV 2 S.2.2.2.2 gX6_ask_X6_isHad rfl rfl rfl (by decide +kernel) ⟨Nat.le_of_ble_eq_true rfl, Nat.le_of_ble_eq_true rfl⟩) 0 5 rfl rfl rfl rfl hl rfl (Nat.le_of_ble_eq_true rfl) ⟨Nat.zero_le _, Nat.zero_le _⟩ rfl dX6_ask_49 (fun H locs I => ?_)
        refine lv_if_eq (tgt := 59) S.1 S.2.1 dX6_ask_52 (by decide) (fun c12 => ?_) (fun c12 => ?_)
        · replace hf := x_ifT hf c12
          refine lv_iconst (v := 0) S.1 S.2.1 dX6_ask_59 (by decide) ?_
          exact x_ri E rfl x_n0 hf rfl I rfl dX6_ask_60
        · replace hf := x_ifF hf c12
          refine lv_iconst (v := 1) S.1 S.2.1 dX6_ask_55 (by decide) ?_
          refine lv_goto (tgt := 60) S.1 S.2.1 dX6_ask_56 (by decide) ?_
          exact x_ri E rfl x_n1 hf rfl I rfl dX6_ask_60
    refine lv_if_eq (tgt := 39) S.1 S.2.1 dX6_ask_32 (by decide) (fun c13 => ?_) (fun c13 => ?_)
    · replace hf := x_ifT hf c13
      refine lv_iconst (v := 1) S.1 S.2.1 dX6_ask_39 (by decide) ?_
      exact hj40 1 _ _ _ hf I (lv_sub hl [1, 2, 3] rfl)
    · replace hf := x_ifF hf c13
      refine lv_iconst (v := 0) S.1 S.2.1 dX6_ask_35 (by decide) ?_
      refine lv_goto (tgt := 40) S.1 S.2.1 dX6_ask_36 (by decide) ?_
      exact hj40 0 _ _ _ hf I (lv_sub hl [1, 2, 3] rfl)
  have hj28 : ∀  (H : Heap) (locs : List Loc) (ls : Array Slot), (fX6_ask_j28 F G p1 p2) = some res → xI D A s (wX6 cI cC cZ h a F G) (xT cI cC cZ) H locs → lv_has ls 4 [(0, .ref h), (1, .int p1), (2, .int p2)] → W p l e (headSpec wsX6_ask rmX6_ask).room s m args below meth c H locs 0 0 Q (F0 m 28 ls []) := by
    intro  H locs ls hf I hl
    replace hf := (fX6_ask_j28_e _ _ _ _).symm.trans hf
    refine lv_iconst (v := 0) S.1 S.2.1 dX6_ask_28 (by decide) ?_
    exact hj29 0 _ _ _ hf I (lv_sub hl [0, 1, 2] rfl)
  refine lv_if_eq (tgt := 28) S.1 S.2.1 dX6_ask_6 (by decide) (fun c14 => ?_) (fun c14 => ?_)
  · replace hf := x_ifT hf c14
    exact hj28 _ _ _ hf I (lv_sub hl [0, 1, 2] rfl)
  · replace hf := x_ifF hf c14
    refine lv_iload_n S.1 S.2.1 dX6_ask_9 rfl (lv_at hl 2 rfl) ?_
    refine lv_iconst (v := 0) S.1 S.2.1 dX6_ask_10 (by decide) ?_
    refine lv_iconst (v := 1) S.1 S.2.1 dX6_ask_11 (by decide) ?_
    refine lv_iconst (v := 1) S.1 S.2.1 dX6_ask_12 (by decide) ?_
    refine lv_iload_n S.1 S.2.1 dX6_ask_13 rfl (lv_at hl 1 rfl) ?_
    refine lv_ishl S.1 S.2.1 dX6_ask_14 ?_
    refine lv_ishl S.1 S.2.1 dX6_ask_15 ?_
    refine lv_iconst (v := 1) S.1 S.2.1 dX6_ask_16 (by decide) ?_
    refine lv_isub S.1 S.2.1 dX6_ask_17 ?_
    obtain ⟨r16, hg15, hf⟩ := x_b1E hf
    refine x_c0 (As := [.int p2, .int 0, .int ((x_shl 1 (x_shl 1 p1)) - 1)]) (rest := []) (st' := [.int r16]) S I rfl (tX6_in l D cI cC cZ p2 0 ((x_shl 1 (x_shl 1 p1)) - 1) r16 hg15) (va_cwS 3 S.2.2.2.2 gX6_ask_X6_in rfl rfl rfl (by decide +kernel) ⟨Nat.le_of_ble_eq_true rfl, Nat.le_of_ble_eq_true rfl⟩) hl rfl (Nat.le_of_ble_eq_true rfl) ⟨Nat.zero_le _, Nat.zero_le _⟩ rfl dX6_ask_18 (fun H locs I => ?_)
    refine lv_if_eq (tgt := 28) S.1 S.2.1 dX6_ask_21 (by decide) (fun c17 => ?_) (fun c17 => ?_)
    · replace hf := x_ifT hf c17
      exact hj28 _ _ _ hf I (lv_sub hl [0, 1, 2] rfl)
    · replace hf := x_ifF hf c17
      refine lv_iconst (v := 1) S.1 S.2.1 dX6_ask_24 (by decide) ?_
      refine lv_goto (tgt := 29) S.1 S.2.1 dX6_ask_25 (by decide) ?_
      exact hj29 1 _ _ _ hf I (lv_sub hl [0, 1, 2] rfl)
set_option maxHeartbeats 4000000 in
set_option maxRecDepth 100000 in
theorem tX6_has (l : Launch) (D : va_G) (cI cC cZ : ClassId) (h : Nat) (a : Nat → Nat) (F : xF) (G : xG) (p1 p2 : Int32) (res : Int32 × xF × xG) (hf : fX6_has F G p1 p2 = some res) : xC l yX6_has wsX6_has rmX6_has D [.ref h, .int p1, .int p2] (wX6 cI cC cZ h a F G) (fun t => (wX6 cI cC cZ h a t.2.1 t.2.2)) (xT cI cC cZ) (fun t => some (.int t.1)) res := by
  refine x_of (cc := cX6_has) (maxL := 3) (ret := (some .boolean)) (by decide) rfl (Nat.le_of_ble_eq_true rfl) ?_
  intro p e s m args below meth c A Q ls S I E hl
  replace hl : lv_has ls 3 [(0, .ref h), (1, .int p1), (2, .int p2)] := hl
  replace hf := (fX6_has_e _ _ _ _).symm.trans hf
  refine lv_aload_n S.1 S.2.1 dX6_has_0 rfl (lv_at hl 0 rfl) ?_
  refine lv_iload_n S.1 S.2.1 dX6_has_1 rfl (lv_at hl 1 rfl) ?_
  refine lv_iload_n S.1 S.2.1 dX6_has_2 rfl (lv_at hl 2 rfl) ?_
  obtain ⟨r2, F3, G4, hg1, hf⟩ := x_b3E hf
  refine x_cA (As := [.int p1, .int p2]) (rest := []) (st' := [.int r2]) (ws' := (wX6 cI cC cZ h a F3 G4)) S I (tX6_ask l D cI cC cZ h a F G p1 p2 (r2, F3, G4) hg1) (cwV 2 S.2.2.2.2 gX6_has_X6_ask rfl rfl rfl (by decide +kernel) ⟨Nat.le_of_ble_eq_true rfl, Nat.le_of_ble_eq_true rfl⟩) 0 5 rfl rfl rfl rfl hl rfl (Nat.le_of_ble_eq_true rfl) ⟨Nat.zero_le _, Nat.zero_le _⟩ rfl dX6_has_3 (fun H locs I => ?_)
  exact x_ri E rfl rfl hf rfl I rfl dX6_has_6
set_option maxHeartbeats 4000000 in
set_option maxRecDepth 100000 in
theorem tX6_hasAnew (l : Launch) (D : va_G) (cI cC cZ : ClassId) (h : Nat) (a : Nat → Nat) (F : xF) (G : xG) (p1 p2 : Int32) (res : Int32 × xF × xG) (hf : fX6_hasAnew F G p1 p2 = some res) : xC l yX6_hasAnew wsX6_hasAnew rmX6_hasAnew D [.ref h, .int p1, .int p2] (wX6 cI cC cZ h a F G) (fun t => (wX6 cI cC cZ h a t.2.1 t.2.2)) (xT cI cC cZ) (fun t => some (.int t.1)) res := by
  refine x_of (cc := cX6_hasAnew) (maxL := 3) (ret := (some .boolean)) (by decide) rfl (Nat.le_of_ble_eq_true rfl) ?_
  intro p e s m args below meth c A Q ls S I E hl
  replace hl : lv_has ls 3 [(0, .ref h), (1, .int p1), (2, .int p2)] := hl
  replace hf := (fX6_hasAnew_e _ _ _ _).symm.trans hf
  refine lv_aload_n S.1 S.2.1 dX6_hasAnew_0 rfl (lv_at hl 0 rfl) ?_
  refine lv_iload_n S.1 S.2.1 dX6_hasAnew_1 rfl (lv_at hl 1 rfl) ?_
  refine lv_iload_n S.1 S.2.1 dX6_hasAnew_2 rfl (lv_at hl 2 rfl) ?_
  obtain ⟨r2, F3, G4, hg1, hf⟩ := x_b3E hf
  refine x_cA (As := [.int p1, .int p2]) (rest := []) (st' := [.int r2]) (ws' := (wX6 cI cC cZ h a F3 G4)) S I (tX6_ask l D cI cC cZ h a F G p1 p2 (r2, F3, G4) hg1) (cwV 2 S.2.2.2.2 gX6_hasAnew_X6_ask rfl rfl rfl (by decide +kernel) ⟨Nat.le_of_ble_eq_true rfl, Nat.le_of_ble_eq_true rfl⟩) 0 5 rfl rfl rfl rfl hl rfl (Nat.le_of_ble_eq_true rfl) ⟨Nat.zero_le _, Nat.zero_le _⟩ rfl dX6_hasAnew_3 (fun H locs I => ?_)
  exact x_ri E rfl rfl hf rfl I rfl dX6_hasAnew_6
