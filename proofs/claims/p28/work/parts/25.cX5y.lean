set_option maxHeartbeats 4000000 in
set_option maxRecDepth 100000 in
theorem tX5_letter (l : Launch) (hlf : l.stackTraces = false) (sa : Nat → Nat) (D : va_G) (cI cC cZ : ClassId) (h : Nat) (a b d z q : Nat → Nat) (Fp : xF) (Gp : xG) (Fo : xF) (Go : xG) (Fz : xF) (Gz : xG) (Fq : xF) (Gq : xG) (p1 : Int32) (res : Int32 × Int32 × xF × xG × xF × xG) (hf : fX5_letter Fp Gp Fo Go p1 = some res) : yC l yX5_letter wsX5_letter rmX5_letter exX5_letter D sa [.ref h, .int p1] (wX5 cI cC cZ h a b d z q Fp Gp Fo Go Fz Gz Fq Gq) (fun t => (wX5 cI cC cZ h a b d z q t.2.2.1 t.2.2.2.1 t.2.2.2.2.1 t.2.2.2.2.2 Fz Gz Fq Gq)) (xT cI cC cZ) (fun t => some (.int t.2.1)) res := by
  have kX5 : ∀ w ∈ u_ws RX5 TX5 3, w ∈ wsX5_letter := by decide +kernel
  refine y_of (cc := cX5_letter) (maxL := 2) (ret := (some .int)) (by decide) rfl (Nat.le_of_ble_eq_true rfl) ?_
  intro p e s m args below meth c A Q ls S I Z E hl
  replace hl : lv_has ls 2 [(0, .ref h), (1, .int p1)] := hl
  replace hf := (fX5_letter_e _ _ _ _ _).symm.trans hf
  refine lv_iload_n S.1 S.2.1 dX5_letter_0 rfl (lv_at hl 1 rfl) ?_
  obtain ⟨r2, hg1, hf⟩ := x_b1E hf
  refine y_cL (As := [.int p1]) (rest := []) (st' := [.int r2]) S I Z (tX2_isLetter l D cI cC cZ sa p1 r2 hg1) (va_cwS 1 S.2.2.2.2 gX5_letter_X2_isLetter rfl rfl rfl (by decide +kernel) ⟨Nat.le_of_ble_eq_true rfl, Nat.le_of_ble_eq_true rfl⟩) hl rfl (Nat.le_of_ble_eq_true rfl) ⟨Nat.zero_le _, Nat.zero_le _⟩ rfl dX5_letter_1 (fun H locs I => ?_)
  refine lv_if_ne (tgt := 17) S.1 S.2.1 dX5_letter_4 (by decide) (fun c3 => ?_) (fun c3 => ?_)
  · replace hf := x_ifF hf c3
    refine lv_aload_n S.1 S.2.1 dX5_letter_17 rfl (lv_at hl 0 rfl) ?_
    refine x_get (C := RX5) (T := TX5) (N := 3) (ci := 4) (v := .ref (a 0)) S kX5 rfl I 0 0 rfl (by decide) (by decide +kernel) rfl dX5_letter_18 ?_
    obtain ⟨r5, hg4, hf⟩ := x_b1E hf
    refine x_cV (As := []) (rest := []) (st' := [.int r5]) (ws' := (wX5 cI cC cZ h a b d z q Fp Gp Fo Go Fz Gz Fq Gq)) S I (tX2_isFull l D cI cC cZ (a 0) b d Fp Gp Fo Go r5 hg4) (cwV 0 S.2.2.2.2 gX5_letter_X2_isFull rfl rfl rfl (by decide +kernel) ⟨Nat.le_of_ble_eq_true rfl, Nat.le_of_ble_eq_true rfl⟩) 1 1 rfl rfl rfl [1, 2, 3, 4, 5, 6, 7, 8, 9, 10, 11, 12] [0, 13, 14, 15, 16, 17, 18, 19, 20, 21, 22, 23, 24, 25, 26] [0, 15, 16, 17, 18, 19, 20, 21, 22, 23, 24, 25, 26, 1, 2, 3, 4, 5, 6, 7, 8, 9, 10, 11, 12, 13, 14] rfl rfl rfl rfl (by decide) rfl rfl rfl hl rfl (Nat.le_of_ble_eq_true rfl) ⟨Nat.zero_le _, Nat.zero_le _⟩ rfl dX5_letter_21 (fun H locs I => ?_)
    refine lv_if_eq (tgt := 37) S.1 S.2.1 dX5_letter_24 (by decide) (fun c6 => ?_) (fun c6 => ?_)
    · replace hf := x_ifT hf c6
      refine lv_aload_n S.1 S.2.1 dX5_letter_37 rfl (lv_at hl 0 rfl) ?_
      refine x_get (C := RX5) (T := TX5) (N := 3) (ci := 4) (v := .ref (a 0)) S kX5 rfl I 0 0 rfl (by decide) (by decide +kernel) rfl dX5_letter_38 ?_
      refine lv_iload_n S.1 S.2.1 dX5_letter_41 rfl (lv_at hl 1 rfl) ?_
      obtain ⟨r8, F9, G10, F11, G12, hg7, hf⟩ := x_b5E hf
      refine x_cV (As := [.int p1]) (rest := []) (st' := [.int r8]) (ws' := (wX5 cI cC cZ h a b d z q F9 G10 F11 G12 Fz Gz Fq Gq)) S I (tX2_type l D cI cC cZ (a 0) b d Fp Gp Fo Go p1 (r8, F9, G10, F11, G12) hg7) (cwV 1 S.2.2.2.2 gX5_letter_X2_type rfl rfl rfl (by decide +kernel) ⟨Nat.le_of_ble_eq_true rfl, Nat.le_of_ble_eq_true rfl⟩) 1 1 rfl rfl rfl [1, 2, 3, 4, 5, 6, 7, 8, 9, 10, 11, 12] [0, 13, 14, 15, 16, 17, 18, 19, 20, 21, 22, 23, 24, 25, 26] [0, 15, 16, 17, 18, 19, 20, 21, 22, 23, 24, 25, 26, 1, 2, 3, 4, 5, 6, 7, 8, 9, 10, 11, 12, 13, 14] rfl rfl rfl rfl (by decide) rfl rfl rfl hl rfl (Nat.le_of_ble_eq_true rfl) ⟨Nat.zero_le _, Nat.zero_le _⟩ rfl dX5_letter_42 (fun H locs I => ?_)
      exact y_ri S E rfl rfl hf rfl rfl I rfl dX5_letter_45
    · replace hf := x_ifF hf c6
      exact y_throw (cls := yISE) (text := "the page is full") (ik := 45) (is := 47) (ic := 49) S E Z hlf hf (show (2 : Int32) ≠ 0 by decide) I rfl hl (by first | rfl | decide) (by decide) (by decide) (by decide +kernel) (by decide +kernel) rfl (by decide) (fun _ h => List.mem_cons_of_mem _ (List.mem_append_right _ h)) yNg_49 yGd_49 dX5_letter_27 dX5_letter_30 dX5_letter_31 dX5_letter_33 dX5_letter_36 (Nat.le_of_ble_eq_true rfl) (Nat.le_of_ble_eq_true rfl) (Nat.le_refl _) (Nat.le_refl _)
  · replace hf := x_ifT hf c3
    exact y_throw (cls := yIAE) (text := "a page has no such letter") (ik := 34) (is := 36) (ic := 38) S E Z hlf hf (show (1 : Int32) ≠ 0 by decide) I rfl hl (by first | rfl | decide) (by decide) (by decide) (by decide +kernel) (by decide +kernel) rfl (by decide) (fun _ h => List.mem_cons_of_mem _ (List.mem_append_left _ (List.mem_append_right _ h))) yNg_38 yGd_38 dX5_letter_7 dX5_letter_10 dX5_letter_11 dX5_letter_13 dX5_letter_16 (Nat.le_of_ble_eq_true rfl) (Nat.le_of_ble_eq_true rfl) (Nat.le_refl _) (Nat.le_refl _)
set_option maxHeartbeats 4000000 in
set_option maxRecDepth 100000 in
theorem tX5_isSo (l : Launch) (hlf : l.stackTraces = false) (sa : Nat → Nat) (D : va_G) (cI cC cZ : ClassId) (h : Nat) (a b d z q : Nat → Nat) (Fp : xF) (Gp : xG) (Fo : xF) (Go : xG) (Fz : xF) (Gz : xG) (Fq : xF) (Gq : xG) (p1 p2 p3 p4 : Int32) (res : Int32 × Int32 × xG) (hf : fX5_isSo Fp Fo Go p1 p2 p3 p4 = some res) : yC l yX5_isSo wsX5_isSo rmX5_isSo exX5_isSo D sa [.ref h, .int p1, .int p2, .int p3, .int p4] (wX5 cI cC cZ h a b d z q Fp Gp Fo Go Fz Gz Fq Gq) (fun t => (wX5 cI cC cZ h a b d z q Fp Gp Fo t.2.2 Fz Gz Fq Gq)) (xT cI cC cZ) (fun t => some (.int t.2.1)) res := by
  have kX0 : ∀ w ∈ u_ws RX0 TX0 11, w ∈ wsX5_isSo := by decide +kernel
  have kX2 : ∀ w ∈ u_ws RX2 TX2 6, w ∈ wsX5_isSo := by decide +kernel
  have kX5 : ∀ w ∈ u_ws RX5 TX5 3, w ∈ wsX5_isSo := by decide +kernel
  refine y_of (cc := cX5_isSo) (maxL := 5) (ret := (some .boolean)) (by decide) rfl (Nat.le_of_ble_eq_true rfl) ?_
  intro p e s m args below meth c A Q ls S I Z E hl
  replace hl : lv_has ls 5 [(0, .ref h), (1, .int p1), (2, .int p2), (3, .int p3), (4, .int p4)] := hl
  replace hf := (fX5_isSo_e _ _ _ _ _ _ _).symm.trans hf
  refine lv_iconst (v := 1) S.1 S.2.1 dX5_isSo_0 (by decide) ?_
  refine lv_iload_n S.1 S.2.1 dX5_isSo_1 rfl (lv_at hl 1 rfl) ?_
  refine lv_iconst (v := 5) S.1 S.2.1 dX5_isSo_2 (by decide) ?_
  obtain ⟨r2, hg1, hf⟩ := x_b1E hf
  refine x_c0 (As := [.int 1, .int p1, .int 5]) (rest := []) (st' := [.int r2]) S I rfl (tX5_isBetween l D cI cC cZ 1 p1 5 r2 hg1) (va_cwS 3 S.2.2.2.2 gX5_isSo_X5_isBetween rfl rfl rfl (by decide +kernel) ⟨Nat.le_of_ble_eq_true rfl, Nat.le_of_ble_eq_true rfl⟩) hl rfl (Nat.le_of_ble_eq_true rfl) ⟨Nat.zero_le _, Nat.zero_le _⟩ rfl dX5_isSo_3 (fun H locs I => ?_)
  have hj34 : ∀  (H : Heap) (locs : List Loc) (ls : Array Slot), (fX5_isSo_j34 Go) = some res → xI D A s (wX5 cI cC cZ h a b d z q Fp Gp Fo Go Fz Gz Fq Gq) (xT cI cC cZ) H locs → lv_has ls 5 [] → W p l e (headSpec wsX5_isSo rmX5_isSo).room s m args below meth c H locs 0 0 Q (F0 m 34 ls []) := by
    intro  H locs ls hf I hl
    replace hf := (fX5_isSo_j34_e _).symm.trans hf
    exact y_throw (cls := yIAE) (text := "a number is out of range") (ik := 34) (is := 87) (ic := 38) S E Z hlf hf (show (1 : Int32) ≠ 0 by decide) I rfl hl (by first | rfl | decide) (by decide) (by decide) (by decide +kernel) (by decide +kernel) rfl (by decide) (fun _ h => List.mem_cons_of_mem _ (List.mem_append_left _ (List.mem_append_right _ h))) yNg_38 yGd_38 dX5_isSo_34 dX5_isSo_37 dX5_isSo_38 dX5_isSo_40 dX5_isSo_43 (Nat.le_of_ble_eq_true rfl) (Nat.le_of_ble_eq_true rfl) (Nat.le_refl _) (Nat.le_refl _)
  refine lv_if_eq (tgt := 34) S.1 S.2.1 dX5_isSo_6 (by decide) (fun c3 => ?_) (fun c3 => ?_)
  · replace hf := x_ifT hf c3
    exact hj34 _ _ _ hf I (lv_sub hl [] rfl)
  · replace hf := x_ifF hf c3
    refine lv_iload_n S.1 S.2.1 dX5_isSo_9 rfl (lv_at hl 2 rfl) ?_
    refine lv_iload_n S.1 S.2.1 dX5_isSo_10 rfl (lv_at hl 1 rfl) ?_
    obtain ⟨r5, hg4, hf⟩ := x_b1E hf
    refine x_c0 (As := [.int p2, .int p1]) (rest := []) (st' := [.int r5]) S I rfl (tX5_isBelow l D cI cC cZ p2 p1 r5 hg4) (va_cwS 2 S.2.2.2.2 gX5_isSo_X5_isBelow rfl rfl rfl (by decide +kernel) ⟨Nat.le_of_ble_eq_true rfl, Nat.le_of_ble_eq_true rfl⟩) hl rfl (Nat.le_of_ble_eq_true rfl) ⟨Nat.zero_le _, Nat.zero_le _⟩ rfl dX5_isSo_11 (fun H locs I => ?_)
    refine lv_if_eq (tgt := 34) S.1 S.2.1 dX5_isSo_14 (by decide) (fun c6 => ?_) (fun c6 => ?_)
    · replace hf := x_ifT hf c6
      exact hj34 _ _ _ hf I (lv_sub hl [] rfl)
    · replace hf := x_ifF hf c6
      refine lv_iload_n S.1 S.2.1 dX5_isSo_17 rfl (lv_at hl 3 rfl) ?_
      refine lv_iload_n S.1 S.2.1 dX5_isSo_18 rfl (lv_at hl 1 rfl) ?_
      obtain ⟨r8, hg7, hf⟩ := x_b1E hf
      refine x_c0 (As := [.int p3, .int p1]) (rest := []) (st' := [.int r8]) S I rfl (tX5_isBelow l D cI cC cZ p3 p1 r8 hg7) (va_cwS 2 S.2.2.2.2 gX5_isSo_X5_isBelow rfl rfl rfl (by decide +kernel) ⟨Nat.le_of_ble_eq_true rfl, Nat.le_of_ble_eq_true rfl⟩) hl rfl (Nat.le_of_ble_eq_true rfl) ⟨Nat.zero_le _, Nat.zero_le _⟩ rfl dX5_isSo_19 (fun H locs I => ?_)
      refine lv_if_eq (tgt := 34) S.1 S.2.1 dX5_isSo_22 (by decide) (fun c9 => ?_) (fun c9 => ?_)
      · replace hf := x_ifT hf c9
        exact hj34 _ _ _ hf I (lv_sub hl [] rfl)
      · replace hf := x_ifF hf c9
        refine lv_iload S.1 S.2.1 dX5_isSo_25 (lv_at hl 4 rfl) ?_
        refine lv_iload_n S.1 S.2.1 dX5_isSo_27 rfl (lv_at hl 1 rfl) ?_
        obtain ⟨r11, hg10, hf⟩ := x_b1E hf
        refine x_c0 (As := [.int p4, .int p1]) (rest := []) (st' := [.int r11]) S I rfl (tX5_isBelow l D cI cC cZ p4 p1 r11 hg10) (va_cwS 2 S.2.2.2.2 gX5_isSo_X5_isBelow rfl rfl rfl (by decide +kernel) ⟨Nat.le_of_ble_eq_true rfl, Nat.le_of_ble_eq_true rfl⟩) hl rfl (Nat.le_of_ble_eq_true rfl) ⟨Nat.zero_le _, Nat.zero_le _⟩ rfl dX5_isSo_28 (fun H locs I => ?_)
        refine lv_if_ne (tgt := 44) S.1 S.2.1 dX5_isSo_31 (by decide) (fun c12 => ?_) (fun c12 => ?_)
        · replace hf := x_ifF hf c12
          refine lv_aload_n S.1 S.2.1 dX5_isSo_44 rfl (lv_at hl 0 rfl) ?_
          refine x_get (C := RX5) (T := TX5) (N := 3) (ci := 4) (v := .ref (a 0)) S kX5 rfl I 0 0 rfl (by decide) (by decide +kernel) rfl dX5_isSo_45 ?_
          obtain ⟨r14, hg13, hf⟩ := x_b1E hf
          refine x_cV (As := []) (rest := []) (st' := [.int r14]) (ws' := (wX5 cI cC cZ h a b d z q Fp Gp Fo Go Fz Gz Fq Gq)) S I (tX2_isFormula l D cI cC cZ (a 0) b d Fp Gp Fo Go r14 hg13) (cwV 0 S.2.2.2.2 gX5_isSo_X2_isFormula rfl rfl rfl (by decide +kernel) ⟨Nat.le_of_ble_eq_true rfl, Nat.le_of_ble_eq_true rfl⟩) 1 1 rfl rfl rfl [1, 2, 3, 4, 5, 6, 7, 8, 9, 10, 11, 12] [0, 13, 14, 15, 16, 17, 18, 19, 20, 21, 22, 23, 24, 25, 26] [0, 15, 16, 17, 18, 19, 20, 21, 22, 23, 24, 25, 26, 1, 2, 3, 4, 5, 6, 7, 8, 9, 10, 11, 12, 13, 14] rfl rfl rfl rfl (by decide) rfl rfl rfl hl rfl (Nat.le_of_ble_eq_true rfl) ⟨Nat.zero_le _, Nat.zero_le _⟩ rfl dX5_isSo_48 (fun H locs I => ?_)
          have hj69 : ∀  (H : Heap) (locs : List Loc) (ls : Array Slot), (fX5_isSo_j69 Go) = some res → xI D A s (wX5 cI cC cZ h a b d z q Fp Gp Fo Go Fz Gz Fq Gq) (xT cI cC cZ) H locs → lv_has ls 5 [] → W p l e (headSpec wsX5_isSo rmX5_isSo).room s m args below meth c H locs 0 0 Q (F0 m 69 ls []) := by
            intro  H locs ls hf I hl
            replace hf := (fX5_isSo_j69_e _).symm.trans hf
            exact y_throw (cls := yISE) (text := "the page is no formula that can be tried") (ik := 45) (is := 93) (ic := 49) S E Z hlf hf (show (2 : Int32) ≠ 0 by decide) I rfl hl (by first | rfl | decide) (by decide) (by decide) (by decide +kernel) (by decide +kernel) rfl (by decide) (fun _ h => List.mem_cons_of_mem _ (List.mem_append_right _ h)) yNg_49 yGd_49 dX5_isSo_69 dX5_isSo_72 dX5_isSo_73 dX5_isSo_75 dX5_isSo_78 (Nat.le_of_ble_eq_true rfl) (Nat.le_of_ble_eq_true rfl) (Nat.le_refl _) (Nat.le_refl _)
          refine lv_if_eq (tgt := 69) S.1 S.2.1 dX5_isSo_51 (by decide) (fun c15 => ?_) (fun c15 => ?_)
          · replace hf := x_ifT hf c15
            exact hj69 _ _ _ hf I (lv_sub hl [] rfl)
          · replace hf := x_ifF hf c15
            refine lv_aload_n S.1 S.2.1 dX5_isSo_54 rfl (lv_at hl 0 rfl) ?_
            refine x_get (C := RX5) (T := TX5) (N := 3) (ci := 4) (v := .ref (a 0)) S kX5 rfl I 0 0 rfl (by decide) (by decide +kernel) rfl dX5_isSo_55 ?_
            refine x_getN (host := "ReversalCourt") (C := RX2) (T := TX2) (N := 6) (ci := 1) (v := .ref (b 0)) S kX2 rfl I 1 0 rfl (by decide) (by decide +kernel) rfl dX5_isSo_58 ?_
            refine x_getN (host := "ReversalCourt") (C := RX0) (T := TX0) (N := 11) (ci := 0) (v := .int (Fo 10)) S kX0 rfl I 3 10 rfl (by decide) (by decide +kernel) rfl dX5_isSo_61 ?_
            refine lv_bipush (v := 6) S.1 S.2.1 dX5_isSo_64 (by decide) ?_
            refine lv_icmp_le (tgt := 79) S.1 S.2.1 dX5_isSo_66 (by decide) (fun c16 => ?_) (fun c16 => ?_)
            · replace hf := x_ifT hf c16
              refine lv_aload_n S.1 S.2.1 dX5_isSo_79 rfl (lv_at hl 0 rfl) ?_
              refine x_get (C := RX5) (T := TX5) (N := 3) (ci := 4) (v := .ref (a 0)) S kX5 rfl I 0 0 rfl (by decide) (by decide +kernel) rfl dX5_isSo_80 ?_
              refine x_getN (host := "ReversalCourt") (C := RX2) (T := TX2) (N := 6) (ci := 1) (v := .ref (b 0)) S kX2 rfl I 1 0 rfl (by decide) (by decide +kernel) rfl dX5_isSo_83 ?_
              refine lv_iload_n S.1 S.2.1 dX5_isSo_86 rfl (lv_at hl 1 rfl) ?_
              refine lv_iload_n S.1 S.2.1 dX5_isSo_87 rfl (lv_at hl 2 rfl) ?_
              refine lv_iload_n S.1 S.2.1 dX5_isSo_88 rfl (lv_at hl 3 rfl) ?_
              refine lv_iload S.1 S.2.1 dX5_isSo_89 (lv_at hl 4 rfl) ?_
              obtain ⟨r18, G19, hg17, hf⟩ := x_b2E hf
              refine x_cV (As := [.int p1, .int p2, .int p3, .int p4]) (rest := []) (st' := [.int r18]) (ws' := (wX5 cI cC cZ h a b d z q Fp Gp Fo G19 Fz Gz Fq Gq)) S I (tX0_isTrue l D cI cC cZ (b 0) d Fo Go p1 p2 p3 p4 (r18, G19) hg17) (cwV 4 S.2.2.2.2 gX5_isSo_X0_isTrue rfl rfl rfl (by decide +kernel) ⟨Nat.le_of_ble_eq_true rfl, Nat.le_of_ble_eq_true rfl⟩) 3 0 rfl rfl rfl [3, 4, 5, 6, 7, 8, 9, 10, 11, 12] [0, 1, 2, 13, 14, 15, 16, 17, 18, 19, 20, 21, 22, 23, 24, 25, 26] [0, 1, 2, 17, 18, 19, 20, 21, 22, 23, 24, 25, 26, 3, 4, 5, 6, 7, 8, 9, 10, 11, 12, 13, 14, 15, 16] rfl rfl rfl rfl (by decide) rfl rfl rfl hl rfl (Nat.le_of_ble_eq_true rfl) ⟨Nat.zero_le _, Nat.zero_le _⟩ rfl dX5_isSo_91 (fun H locs I => ?_)
              exact y_ri S E rfl rfl hf rfl rfl I rfl dX5_isSo_94
            · replace hf := x_ifF hf c16
              exact hj69 _ _ _ hf I (lv_sub hl [] rfl)
        · replace hf := x_ifT hf c12
          exact hj34 _ _ _ hf I (lv_sub hl [] rfl)
set_option maxHeartbeats 4000000 in
set_option maxRecDepth 100000 in
theorem tX5_principle (l : Launch) (hlf : l.stackTraces = false) (sa : Nat → Nat) (D : va_G) (cI cC cZ : ClassId) (h : Nat) (a b d z q : Nat → Nat) (Fp : xF) (Gp : xG) (Fo : xF) (Go : xG) (Fz : xF) (Gz : xG) (Fq : xF) (Gq : xG) (res : Int32 × Int32 × xF × xF × xF × xG) (hf : fX5_principle Fp Fo Go Fz Gz = some res) : yC l yX5_principle wsX5_principle rmX5_principle exX5_principle D sa [.ref h] (wX5 cI cC cZ h a b d z q Fp Gp Fo Go Fz Gz Fq Gq) (fun t => (wX5 cI cC cZ h a b d z q t.2.2.1 Gp t.2.2.2.1 Go t.2.2.2.2.1 t.2.2.2.2.2 Fq Gq)) (xT cI cC cZ) (fun t => some (.int t.2.1)) res := by
  have kX2 : ∀ w ∈ u_ws RX2 TX2 6, w ∈ wsX5_principle := by decide +kernel
  have kX5 : ∀ w ∈ u_ws RX5 TX5 3, w ∈ wsX5_principle := by decide +kernel
  refine y_of (cc := cX5_principle) (maxL := 2) (ret := (some .int)) (by decide) rfl (Nat.le_of_ble_eq_true rfl) ?_
  intro p e s m args below meth c A Q ls S I Z E hl
  replace hl : lv_has ls 2 [(0, .ref h)] := hl
  replace hf := (fX5_principle_e _ _ _ _ _).symm.trans hf
  refine lv_aload_n S.1 S.2.1 dX5_principle_0 rfl (lv_at hl 0 rfl) ?_
  refine x_get (C := RX5) (T := TX5) (N := 3) (ci := 4) (v := .ref (a 0)) S kX5 rfl I 0 0 rfl (by decide) (by decide +kernel) rfl dX5_principle_1 ?_
  obtain ⟨r2, hg1, hf⟩ := x_b1E hf
  refine x_cV (As := []) (rest := []) (st' := [.int r2]) (ws' := (wX5 cI cC cZ h a b d z q Fp Gp Fo Go Fz Gz Fq Gq)) S I (tX2_isFormula l D cI cC cZ (a 0) b d Fp Gp Fo Go r2 hg1) (cwV 0 S.2.2.2.2 gX5_principle_X2_isFormula rfl rfl rfl (by decide +kernel) ⟨Nat.le_of_ble_eq_true rfl, Nat.le_of_ble_eq_true rfl⟩) 1 1 rfl rfl rfl [1, 2, 3, 4, 5, 6, 7, 8, 9, 10, 11, 12] [0, 13, 14, 15, 16, 17, 18, 19, 20, 21, 22, 23, 24, 25, 26] [0, 15, 16, 17, 18, 19, 20, 21, 22, 23, 24, 25, 26, 1, 2, 3, 4, 5, 6, 7, 8, 9, 10, 11, 12, 13, 14] rfl rfl rfl rfl (by decide) rfl rfl rfl hl rfl (Nat.le_of_ble_eq_true rfl) ⟨Nat.zero_le _, Nat.zero_le _⟩ rfl dX5_principle_4 (fun H locs I => ?_)
  have hj33 : ∀  (H : Heap) (locs : List Loc) (ls : Array Slot), (fX5_principle_j33 Fp Fo Fz Gz) = some res → xI D A s (wX5 cI cC cZ h a b d z q Fp Gp Fo Go Fz Gz Fq Gq) (xT cI cC cZ) H locs → lv_has ls 2 [] → W p l e (headSpec wsX5_principle rmX5_principle).room s m args below meth c H locs 0 0 Q (F0 m 33 ls []) := by
    intro  H locs ls hf I hl
    replace hf := (fX5_principle_j33_e _ _ _ _).symm.trans hf
    exact y_throw (cls := yISE) (text := "the page cannot be made a principle") (ik := 45) (is := 102) (ic := 49) S E Z hlf hf (show (1 : Int32) ≠ 0 by decide) I rfl hl (by first | rfl | decide) (by decide) (by decide) (by decide +kernel) (by decide +kernel) rfl (by decide) (fun _ h => List.mem_cons_of_mem _ (List.mem_append_right _ h)) yNg_49 yGd_49 dX5_principle_33 dX5_principle_36 dX5_principle_37 dX5_principle_39 dX5_principle_42 (Nat.le_of_ble_eq_true rfl) (Nat.le_of_ble_eq_true rfl) (Nat.le_refl _) (Nat.le_refl _)
  refine lv_if_eq (tgt := 33) S.1 S.2.1 dX5_principle_7 (by decide) (fun c3 => ?_) (fun c3 => ?_)
  · replace hf := x_ifT hf c3
    exact hj33 _ _ _ hf I (lv_sub hl [] rfl)
  · replace hf := x_ifF hf c3
    refine lv_aload_n S.1 S.2.1 dX5_principle_10 rfl (lv_at hl 0 rfl) ?_
    refine x_get (C := RX5) (T := TX5) (N := 3) (ci := 4) (v := .ref (a 0)) S kX5 rfl I 0 0 rfl (by decide) (by decide +kernel) rfl dX5_principle_11 ?_
    refine x_getN (host := "ReversalCourt") (C := RX2) (T := TX2) (N := 6) (ci := 1) (v := .ref (b 0)) S kX2 rfl I 1 0 rfl (by decide) (by decide +kernel) rfl dX5_principle_14 ?_
    obtain ⟨r5, hg4, hf⟩ := x_b1E hf
    refine x_cV (As := []) (rest := []) (st' := [.int r5]) (ws' := (wX5 cI cC cZ h a b d z q Fp Gp Fo Go Fz Gz Fq Gq)) S I (tX0_wholeFree l D cI cC cZ (b 0) d Fo Go r5 hg4) (cwV 0 S.2.2.2.2 gX5_principle_X0_wholeFree rfl rfl rfl (by decide +kernel) ⟨Nat.le_of_ble_eq_true rfl, Nat.le_of_ble_eq_true rfl⟩) 3 0 rfl rfl rfl [3, 4, 5, 6, 7, 8, 9, 10, 11, 12] [0, 1, 2, 13, 14, 15, 16, 17, 18, 19, 20, 21, 22, 23, 24, 25, 26] [0, 1, 2, 17, 18, 19, 20, 21, 22, 23, 24, 25, 26, 3, 4, 5, 6, 7, 8, 9, 10, 11, 12, 13, 14, 15, 16] rfl rfl rfl rfl (by decide) rfl rfl rfl hl rfl (Nat.le_of_ble_eq_true rfl) ⟨Nat.zero_le _, Nat.zero_le _⟩ rfl dX5_principle_17 (fun H locs I => ?_)
    refine lv_if_ne (tgt := 33) S.1 S.2.1 dX5_principle_20 (by decide) (fun c6 => ?_) (fun c6 => ?_)
    · replace hf := x_ifF hf c6
      exact hj33 _ _ _ hf I (lv_sub hl [] rfl)
    · replace hf := x_ifT hf c6
      refine lv_aload_n S.1 S.2.1 dX5_principle_23 rfl (lv_at hl 0 rfl) ?_
      refine x_get (C := RX5) (T := TX5) (N := 3) (ci := 4) (v := .ref (a 1)) S kX5 rfl I 0 1 rfl (by decide) (by decide +kernel) rfl dX5_principle_24 ?_
      obtain ⟨r8, hg7, hf⟩ := x_b1E hf
      refine x_cV (As := []) (rest := []) (st' := [.int r8]) (ws' := (wX5 cI cC cZ h a b d z q Fp Gp Fo Go Fz Gz Fq Gq)) S I (tX4_hasAllPrinciples l D cI cC cZ (a 1) z Fz Gz r8 hg7) (cwV 0 S.2.2.2.2 gX5_principle_X4_hasAllPrinciples rfl rfl rfl (by decide +kernel) ⟨Nat.le_of_ble_eq_true rfl, Nat.le_of_ble_eq_true rfl⟩) 13 3 rfl rfl rfl [13, 14, 15, 16, 17, 18, 19] [0, 1, 2, 3, 4, 5, 6, 7, 8, 9, 10, 11, 12, 20, 21, 22, 23, 24, 25, 26] [0, 1, 2, 3, 4, 5, 6, 7, 8, 9, 10, 11, 12, 20, 21, 22, 23, 24, 25, 26, 13, 14, 15, 16, 17, 18, 19] rfl rfl rfl rfl (by decide) rfl rfl rfl hl rfl (Nat.le_of_ble_eq_true rfl) ⟨Nat.zero_le _, Nat.zero_le _⟩ rfl dX5_principle_27 (fun H locs I => ?_)
      refine lv_if_eq (tgt := 43) S.1 S.2.1 dX5_principle_30 (by decide) (fun c9 => ?_) (fun c9 => ?_)
      · replace hf := x_ifT hf c9
        refine lv_aload_n S.1 S.2.1 dX5_principle_43 rfl (lv_at hl 0 rfl) ?_
        refine x_get (C := RX5) (T := TX5) (N := 3) (ci := 4) (v := .ref (a 1)) S kX5 rfl I 0 1 rfl (by decide) (by decide +kernel) rfl dX5_principle_44 ?_
        refine lv_aload_n S.1 S.2.1 dX5_principle_47 rfl (lv_at hl 0 rfl) ?_
        refine x_get (C := RX5) (T := TX5) (N := 3) (ci := 4) (v := .ref (a 0)) S kX5 rfl I 0 0 rfl (by decide) (by decide +kernel) rfl dX5_principle_48 ?_
        refine x_getN (host := "ReversalCourt") (C := RX2) (T := TX2) (N := 6) (ci := 1) (v := .ref (b 0)) S kX2 rfl I 1 0 rfl (by decide) (by decide +kernel) rfl dX5_principle_51 ?_
        obtain ⟨r11, hg10, hf⟩ := x_b1E hf
        refine x_cV (As := []) (rest := [.ref (a 1)]) (st' := [.int r11, .ref (a 1)]) (ws' := (wX5 cI cC cZ h a b d z q Fp Gp Fo Go Fz Gz Fq Gq)) S I (tX0_wholeSigma l D cI cC cZ (b 0) d Fo Go r11 hg10) (cwV 0 S.2.2.2.2 gX5_principle_X0_wholeSigma rfl rfl rfl (by decide +kernel) ⟨Nat.le_of_ble_eq_true rfl, Nat.le_of_ble_eq_true rfl⟩) 3 0 rfl rfl rfl [3, 4, 5, 6, 7, 8, 9, 10, 11, 12] [0, 1, 2, 13, 14, 15, 16, 17, 18, 19, 20, 21, 22, 23, 24, 25, 26] [0, 1, 2, 17, 18, 19, 20, 21, 22, 23, 24, 25, 26, 3, 4, 5, 6, 7, 8, 9, 10, 11, 12, 13, 14, 15, 16] rfl rfl rfl rfl (by decide) rfl rfl rfl hl rfl (Nat.le_of_ble_eq_true rfl) ⟨Nat.zero_le _, Nat.zero_le _⟩ rfl dX5_principle_54 (fun H locs I => ?_)
        refine lv_aload_n S.1 S.2.1 dX5_principle_57 rfl (lv_at hl 0 rfl) ?_
        refine x_get (C := RX5) (T := TX5) (N := 3) (ci := 4) (v := .ref (a 0)) S kX5 rfl I 0 0 rfl (by decide) (by decide +kernel) rfl dX5_principle_58 ?_
        refine x_getN (host := "ReversalCourt") (C := RX2) (T := TX2) (N := 6) (ci := 1) (v := .ref (b 0)) S kX2 rfl I 1 0 rfl (by decide) (by decide +kernel) rfl dX5_principle_61 ?_
        obtain ⟨r13, hg12, hf⟩ := x_b1E hf
        refine x_cV (As := []) (rest := [.int r11, .ref (a 1)]) (st' := [.int r13, .int r11, .ref (a 1)]) (ws' := (wX5 cI cC cZ h a b d z q Fp Gp Fo Go Fz Gz Fq Gq)) S I (tX0_wholePi l D cI cC cZ (b 0) d Fo Go r13 hg12) (cwV 0 S.2.2.2.2 gX5_principle_X0_wholePi rfl rfl rfl (by decide +kernel) ⟨Nat.le_of_ble_eq_true rfl, Nat.le_of_ble_eq_true rfl⟩) 3 0 rfl rfl rfl [3, 4, 5, 6, 7, 8, 9, 10, 11, 12] [0, 1, 2, 13, 14, 15, 16, 17, 18, 19, 20, 21, 22, 23, 24, 25, 26] [0, 1, 2, 17, 18, 19, 20, 21, 22, 23, 24, 25, 26, 3, 4, 5, 6, 7, 8, 9, 10, 11, 12, 13, 14, 15, 16] rfl rfl rfl rfl (by decide) rfl rfl rfl hl rfl (Nat.le_of_ble_eq_true rfl) ⟨Nat.zero_le _, Nat.zero_le _⟩ rfl dX5_principle_64 (fun H locs I => ?_)
        obtain ⟨r15, F16, G17, hg14, hf⟩ := x_b3E hf
        refine x_cV (As := [.int r11, .int r13]) (rest := []) (st' := [.int r15]) (ws' := (wX5 cI cC cZ h a b d z q Fp Gp Fo Go F16 G17 Fq Gq)) S I (tX4_addPrinciple l D cI cC cZ (a 1) z Fz Gz r11 r13 (r15, F16, G17) hg14) (cwV 2 S.2.2.2.2 gX5_principle_X4_addPrinciple rfl rfl rfl (by decide +kernel) ⟨Nat.le_of_ble_eq_true rfl, Nat.le_of_ble_eq_true rfl⟩) 13 3 rfl rfl rfl [13, 14, 15, 16, 17, 18, 19] [0, 1, 2, 3, 4, 5, 6, 7, 8, 9, 10, 11, 12, 20, 21, 22, 23, 24, 25, 26] [0, 1, 2, 3, 4, 5, 6, 7, 8, 9, 10, 11, 12, 20, 21, 22, 23, 24, 25, 26, 13, 14, 15, 16, 17, 18, 19] rfl rfl rfl rfl (by decide) rfl rfl rfl hl rfl (Nat.le_of_ble_eq_true rfl) ⟨Nat.zero_le _, Nat.zero_le _⟩ rfl dX5_principle_67 (fun H locs I => ?_)
        refine lv_istore_n (lv' := [(1, .int r15), (0, .ref h)]) S.1 S.2.1 dX5_principle_70 rfl hl (by decide) rfl (fun ls hl => ?_)
        refine lv_aload_n S.1 S.2.1 dX5_principle_71 rfl (lv_at hl 1 rfl) ?_
        refine x_get (C := RX5) (T := TX5) (N := 3) (ci := 4) (v := .ref (a 0)) S kX5 rfl I 0 0 rfl (by decide) (by decide +kernel) rfl dX5_principle_72 ?_
        obtain ⟨r19, F20, F21, hg18, hf⟩ := x_b3E hf
        refine x_cV (As := []) (rest := []) (st' := [.int r19]) (ws' := (wX5 cI cC cZ h a b d z q F20 Gp F21 Go F16 G17 Fq Gq)) S I (tX2_wipe l D cI cC cZ (a 0) b d Fp Gp Fo Go (r19, F20, F21) hg18) (cwV 0 S.2.2.2.2 gX5_principle_X2_wipe rfl rfl rfl (by decide +kernel) ⟨Nat.le_of_ble_eq_true rfl, Nat.le_of_ble_eq_true rfl⟩) 1 1 rfl rfl rfl [1, 2, 3, 4, 5, 6, 7, 8, 9, 10, 11, 12] [0, 13, 14, 15, 16, 17, 18, 19, 20, 21, 22, 23, 24, 25, 26] [0, 15, 16, 17, 18, 19, 20, 21, 22, 23, 24, 25, 26, 1, 2, 3, 4, 5, 6, 7, 8, 9, 10, 11, 12, 13, 14] rfl rfl rfl rfl (by decide) rfl rfl rfl hl rfl (Nat.le_of_ble_eq_true rfl) ⟨Nat.zero_le _, Nat.zero_le _⟩ rfl dX5_principle_75 (fun H locs I => ?_)
        refine lv_pop S.1 S.2.1 dX5_principle_78 rfl ?_
        refine lv_iload_n S.1 S.2.1 dX5_principle_79 rfl (lv_at hl 0 rfl) ?_
        exact y_ri S E rfl rfl hf rfl rfl I rfl dX5_principle_80
      · replace hf := x_ifF hf c9
        exact hj33 _ _ _ hf I (lv_sub hl [] rfl)
set_option maxHeartbeats 4000000 in
set_option maxRecDepth 100000 in
theorem tX5_rule (l : Launch) (hlf : l.stackTraces = false) (sa : Nat → Nat) (D : va_G) (cI cC cZ : ClassId) (h : Nat) (a b d z q : Nat → Nat) (Fp : xF) (Gp : xG) (Fo : xF) (Go : xG) (Fz : xF) (Gz : xG) (Fq : xF) (Gq : xG) (p1 p2 : Int32) (res : Int32 × Int32 × xF × xG) (hf : fX5_rule Fz Gz p1 p2 = some res) : yC l yX5_rule wsX5_rule rmX5_rule exX5_rule D sa [.ref h, .int p1, .int p2] (wX5 cI cC cZ h a b d z q Fp Gp Fo Go Fz Gz Fq Gq) (fun t => (wX5 cI cC cZ h a b d z q Fp Gp Fo Go t.2.2.1 t.2.2.2 Fq Gq)) (xT cI cC cZ) (fun t => some (.int t.2.1)) res := by
  have kX5 : ∀ w ∈ u_ws RX5 TX5 3, w ∈ wsX5_rule := by decide +kernel
  refine y_of (cc := cX5_rule) (maxL := 3) (ret := (some .int)) (by decide) rfl (Nat.le_of_ble_eq_true rfl) ?_
  intro p e s m args below meth c A Q ls S I Z E hl
  replace hl : lv_has ls 3 [(0, .ref h), (1, .int p1), (2, .int p2)] := hl
  replace hf := (fX5_rule_e _ _ _ _).symm.trans hf
  refine lv_aload_n S.1 S.2.1 dX5_rule_0 rfl (lv_at hl 0 rfl) ?_
  refine x_get (C := RX5) (T := TX5) (N := 3) (ci := 4) (v := .ref (a 1)) S kX5 rfl I 0 1 rfl (by decide) (by decide +kernel) rfl dX5_rule_1 ?_
  refine lv_iload_n S.1 S.2.1 dX5_rule_4 rfl (lv_at hl 2 rfl) ?_
  obtain ⟨r2, hg1, hf⟩ := x_b1E hf
  refine x_cV (As := [.int p2]) (rest := []) (st' := [.int r2]) (ws' := (wX5 cI cC cZ h a b d z q Fp Gp Fo Go Fz Gz Fq Gq)) S I (tX4_hasPrinciple l D cI cC cZ (a 1) z Fz Gz p2 r2 hg1) (cwV 1 S.2.2.2.2 gX5_rule_X4_hasPrinciple rfl rfl rfl (by decide +kernel) ⟨Nat.le_of_ble_eq_true rfl, Nat.le_of_ble_eq_true rfl⟩) 13 3 rfl rfl rfl [13, 14, 15, 16, 17, 18, 19] [0, 1, 2, 3, 4, 5, 6, 7, 8, 9, 10, 11, 12, 20, 21, 22, 23, 24, 25, 26] [0, 1, 2, 3, 4, 5, 6, 7, 8, 9, 10, 11, 12, 20, 21, 22, 23, 24, 25, 26, 13, 14, 15, 16, 17, 18, 19] rfl rfl rfl rfl (by decide) rfl rfl rfl hl rfl (Nat.le_of_ble_eq_true rfl) ⟨Nat.zero_le _, Nat.zero_le _⟩ rfl dX5_rule_5 (fun H locs I => ?_)
  refine lv_if_ne (tgt := 21) S.1 S.2.1 dX5_rule_8 (by decide) (fun c3 => ?_) (fun c3 => ?_)
  · replace hf := x_ifF hf c3
    refine lv_aload_n S.1 S.2.1 dX5_rule_21 rfl (lv_at hl 0 rfl) ?_
    refine x_get (C := RX5) (T := TX5) (N := 3) (ci := 4) (v := .ref (a 1)) S kX5 rfl I 0 1 rfl (by decide) (by decide +kernel) rfl dX5_rule_22 ?_
    refine lv_iload_n S.1 S.2.1 dX5_rule_25 rfl (lv_at hl 1 rfl) ?_
    obtain ⟨r5, hg4, hf⟩ := x_b1E hf
    refine x_cV (As := [.int p1]) (rest := []) (st' := [.int r5]) (ws' := (wX5 cI cC cZ h a b d z q Fp Gp Fo Go Fz Gz Fq Gq)) S I (tX4_isSet l D cI cC cZ (a 1) z Fz Gz p1 r5 hg4) (cwV 1 S.2.2.2.2 gX5_rule_X4_isSet rfl rfl rfl (by decide +kernel) ⟨Nat.le_of_ble_eq_true rfl, Nat.le_of_ble_eq_true rfl⟩) 13 3 rfl rfl rfl [13, 14, 15, 16, 17, 18, 19] [0, 1, 2, 3, 4, 5, 6, 7, 8, 9, 10, 11, 12, 20, 21, 22, 23, 24, 25, 26] [0, 1, 2, 3, 4, 5, 6, 7, 8, 9, 10, 11, 12, 20, 21, 22, 23, 24, 25, 26, 13, 14, 15, 16, 17, 18, 19] rfl rfl rfl rfl (by decide) rfl rfl rfl hl rfl (Nat.le_of_ble_eq_true rfl) ⟨Nat.zero_le _, Nat.zero_le _⟩ rfl dX5_rule_26 (fun H locs I => ?_)
    have hj40 : ∀  (H : Heap) (locs : List Loc) (ls : Array Slot), (fX5_rule_j40 Fz Gz) = some res → xI D A s (wX5 cI cC cZ h a b d z q Fp Gp Fo Go Fz Gz Fq Gq) (xT cI cC cZ) H locs → lv_has ls 3 [] → W p l e (headSpec wsX5_rule rmX5_rule).room s m args below meth c H locs 0 0 Q (F0 m 40 ls []) := by
      intro  H locs ls hf I hl
      replace hf := (fX5_rule_j40_e _ _).symm.trans hf
      exact y_throw (cls := yIAE) (text := "the premises are out of range") (ik := 34) (is := 123) (ic := 38) S E Z hlf hf (show (2 : Int32) ≠ 0 by decide) I rfl hl (by first | rfl | decide) (by decide) (by decide) (by decide +kernel) (by decide +kernel) rfl (by decide) (fun _ h => List.mem_cons_of_mem _ (List.mem_append_left _ (List.mem_append_right _ h))) yNg_38 yGd_38 dX5_rule_40 dX5_rule_43 dX5_rule_44 dX5_rule_46 dX5_rule_49 (Nat.le_of_ble_eq_true rfl) (Nat.le_of_ble_eq_true rfl) (Nat.le_refl _) (Nat.le_refl _)
    refine lv_if_eq (tgt := 40) S.1 S.2.1 dX5_rule_29 (by decide) (fun c6 => ?_) (fun c6 => ?_)
    · replace hf := x_ifT hf c6
      exact hj40 _ _ _ hf I (lv_sub hl [] rfl)
    · replace hf := x_ifF hf c6
      refine lv_iload_n S.1 S.2.1 dX5_rule_32 rfl (lv_at hl 1 rfl) ?_
      refine lv_iload_n S.1 S.2.1 dX5_rule_33 rfl (lv_at hl 2 rfl) ?_
      obtain ⟨r8, hg7, hf⟩ := x_b1E hf
      refine x_c0 (As := [.int p1, .int p2]) (rest := []) (st' := [.int r8]) S I rfl (tX4_contains l D cI cC cZ p1 p2 r8 hg7) (va_cwS 2 S.2.2.2.2 gX5_rule_X4_contains rfl rfl rfl (by decide +kernel) ⟨Nat.le_of_ble_eq_true rfl, Nat.le_of_ble_eq_true rfl⟩) hl rfl (Nat.le_of_ble_eq_true rfl) ⟨Nat.zero_le _, Nat.zero_le _⟩ rfl dX5_rule_34 (fun H locs I => ?_)
      refine lv_if_eq (tgt := 50) S.1 S.2.1 dX5_rule_37 (by decide) (fun c9 => ?_) (fun c9 => ?_)
      · replace hf := x_ifT hf c9
        refine lv_aload_n S.1 S.2.1 dX5_rule_50 rfl (lv_at hl 0 rfl) ?_
        refine x_get (C := RX5) (T := TX5) (N := 3) (ci := 4) (v := .ref (a 1)) S kX5 rfl I 0 1 rfl (by decide) (by decide +kernel) rfl dX5_rule_51 ?_
        obtain ⟨r11, hg10, hf⟩ := x_b1E hf
        refine x_cV (As := []) (rest := []) (st' := [.int r11]) (ws' := (wX5 cI cC cZ h a b d z q Fp Gp Fo Go Fz Gz Fq Gq)) S I (tX4_hasAllRules l D cI cC cZ (a 1) z Fz Gz r11 hg10) (cwV 0 S.2.2.2.2 gX5_rule_X4_hasAllRules rfl rfl rfl (by decide +kernel) ⟨Nat.le_of_ble_eq_true rfl, Nat.le_of_ble_eq_true rfl⟩) 13 3 rfl rfl rfl [13, 14, 15, 16, 17, 18, 19] [0, 1, 2, 3, 4, 5, 6, 7, 8, 9, 10, 11, 12, 20, 21, 22, 23, 24, 25, 26] [0, 1, 2, 3, 4, 5, 6, 7, 8, 9, 10, 11, 12, 20, 21, 22, 23, 24, 25, 26, 13, 14, 15, 16, 17, 18, 19] rfl rfl rfl rfl (by decide) rfl rfl rfl hl rfl (Nat.le_of_ble_eq_true rfl) ⟨Nat.zero_le _, Nat.zero_le _⟩ rfl dX5_rule_54 (fun H locs I => ?_)
        have hj72 : ∀  (H : Heap) (locs : List Loc) (ls : Array Slot), (fX5_rule_j72 Fz Gz) = some res → xI D A s (wX5 cI cC cZ h a b d z q Fp Gp Fo Go Fz Gz Fq Gq) (xT cI cC cZ) H locs → lv_has ls 3 [] → W p l e (headSpec wsX5_rule rmX5_rule).room s m args below meth c H locs 0 0 Q (F0 m 72 ls []) := by
          intro  H locs ls hf I hl
          replace hf := (fX5_rule_j72_e _ _).symm.trans hf
          exact y_throw (cls := yISE) (text := "the rule cannot be told") (ik := 45) (is := 131) (ic := 49) S E Z hlf hf (show (3 : Int32) ≠ 0 by decide) I rfl hl (by first | rfl | decide) (by decide) (by decide) (by decide +kernel) (by decide +kernel) rfl (by decide) (fun _ h => List.mem_cons_of_mem _ (List.mem_append_right _ h)) yNg_49 yGd_49 dX5_rule_72 dX5_rule_75 dX5_rule_76 dX5_rule_78 dX5_rule_81 (Nat.le_of_ble_eq_true rfl) (Nat.le_of_ble_eq_true rfl) (Nat.le_refl _) (Nat.le_refl _)
        refine lv_if_ne (tgt := 72) S.1 S.2.1 dX5_rule_57 (by decide) (fun c12 => ?_) (fun c12 => ?_)
        · replace hf := x_ifF hf c12
          exact hj72 _ _ _ hf I (lv_sub hl [] rfl)
        · replace hf := x_ifT hf c12
          refine lv_aload_n S.1 S.2.1 dX5_rule_60 rfl (lv_at hl 0 rfl) ?_
          refine x_get (C := RX5) (T := TX5) (N := 3) (ci := 4) (v := .ref (a 1)) S kX5 rfl I 0 1 rfl (by decide) (by decide +kernel) rfl dX5_rule_61 ?_
          refine lv_iload_n S.1 S.2.1 dX5_rule_64 rfl (lv_at hl 1 rfl) ?_
          refine lv_iload_n S.1 S.2.1 dX5_rule_65 rfl (lv_at hl 2 rfl) ?_
          obtain ⟨r14, hg13, hf⟩ := x_b1E hf
          refine x_cV (As := [.int p1, .int p2]) (rest := []) (st' := [.int r14]) (ws' := (wX5 cI cC cZ h a b d z q Fp Gp Fo Go Fz Gz Fq Gq)) S I (tX4_isBrokenByModel l D cI cC cZ (a 1) z Fz Gz p1 p2 r14 hg13) (cwV 2 S.2.2.2.2 gX5_rule_X4_isBrokenByModel rfl rfl rfl (by decide +kernel) ⟨Nat.le_of_ble_eq_true rfl, Nat.le_of_ble_eq_true rfl⟩) 13 3 rfl rfl rfl [13, 14, 15, 16, 17, 18, 19] [0, 1, 2, 3, 4, 5, 6, 7, 8, 9, 10, 11, 12, 20, 21, 22, 23, 24, 25, 26] [0, 1, 2, 3, 4, 5, 6, 7, 8, 9, 10, 11, 12, 20, 21, 22, 23, 24, 25, 26, 13, 14, 15, 16, 17, 18, 19] rfl rfl rfl rfl (by decide) rfl rfl rfl hl rfl (Nat.le_of_ble_eq_true rfl) ⟨Nat.zero_le _, Nat.zero_le _⟩ rfl dX5_rule_66 (fun H locs I => ?_)
          refine lv_if_eq (tgt := 82) S.1 S.2.1 dX5_rule_69 (by decide) (fun c15 => ?_) (fun c15 => ?_)
          · replace hf := x_ifT hf c15
            refine lv_aload_n S.1 S.2.1 dX5_rule_82 rfl (lv_at hl 0 rfl) ?_
            refine x_get (C := RX5) (T := TX5) (N := 3) (ci := 4) (v := .ref (a 1)) S kX5 rfl I 0 1 rfl (by decide) (by decide +kernel) rfl dX5_rule_83 ?_
            refine lv_iload_n S.1 S.2.1 dX5_rule_86 rfl (lv_at hl 1 rfl) ?_
            refine lv_iload_n S.1 S.2.1 dX5_rule_87 rfl (lv_at hl 2 rfl) ?_
            obtain ⟨r17, F18, G19, hg16, hf⟩ := x_b3E hf
            refine x_cV (As := [.int p1, .int p2]) (rest := []) (st' := [.int r17]) (ws' := (wX5 cI cC cZ h a b d z q Fp Gp Fo Go F18 G19 Fq Gq)) S I (tX4_addRule l D cI cC cZ (a 1) z Fz Gz p1 p2 (r17, F18, G19) hg16) (cwV 2 S.2.2.2.2 gX5_rule_X4_addRule rfl rfl rfl (by decide +kernel) ⟨Nat.le_of_ble_eq_true rfl, Nat.le_of_ble_eq_true rfl⟩) 13 3 rfl rfl rfl [13, 14, 15, 16, 17, 18, 19] [0, 1, 2, 3, 4, 5, 6, 7, 8, 9, 10, 11, 12, 20, 21, 22, 23, 24, 25, 26] [0, 1, 2, 3, 4, 5, 6, 7, 8, 9, 10, 11, 12, 20, 21, 22, 23, 24, 25, 26, 13, 14, 15, 16, 17, 18, 19] rfl rfl rfl rfl (by decide) rfl rfl rfl hl rfl (Nat.le_of_ble_eq_true rfl) ⟨Nat.zero_le _, Nat.zero_le _⟩ rfl dX5_rule_88 (fun H locs I => ?_)
            exact y_ri S E rfl rfl hf rfl rfl I rfl dX5_rule_91
          · replace hf := x_ifF hf c15
            exact hj72 _ _ _ hf I (lv_sub hl [] rfl)
      · replace hf := x_ifF hf c9
        exact hj40 _ _ _ hf I (lv_sub hl [] rfl)
  · replace hf := x_ifT hf c3
    exact y_throw (cls := yIOE) (text := "there is no such principle") (ik := 112) (is := 114) (ic := 116) S E Z hlf hf (show (1 : Int32) ≠ 0 by decide) I rfl hl (by first | rfl | decide) (by decide) (by decide) (by decide +kernel) (by decide +kernel) rfl (by decide) (fun _ h => List.mem_cons_of_mem _ (List.mem_append_left _ (List.mem_append_left _ (List.mem_append_right _ h)))) yNg_116 yGd_116 dX5_rule_11 dX5_rule_14 dX5_rule_15 dX5_rule_17 dX5_rule_20 (Nat.le_of_ble_eq_true rfl) (Nat.le_of_ble_eq_true rfl) (Nat.le_refl _) (Nat.le_refl _)
set_option maxHeartbeats 4000000 in
set_option maxRecDepth 100000 in
theorem tX5_model (l : Launch) (hlf : l.stackTraces = false) (sa : Nat → Nat) (D : va_G) (cI cC cZ : ClassId) (h : Nat) (a b d z q : Nat → Nat) (Fp : xF) (Gp : xG) (Fo : xF) (Go : xG) (Fz : xF) (Gz : xG) (Fq : xF) (Gq : xG) (p1 : Int32) (res : Int32 × Int32 × xF × xG) (hf : fX5_model Fz Gz p1 = some res) : yC l yX5_model wsX5_model rmX5_model exX5_model D sa [.ref h, .int p1] (wX5 cI cC cZ h a b d z q Fp Gp Fo Go Fz Gz Fq Gq) (fun t => (wX5 cI cC cZ h a b d z q Fp Gp Fo Go t.2.2.1 t.2.2.2 Fq Gq)) (xT cI cC cZ) (fun t => some (.int t.2.1)) res := by
  have kX5 : ∀ w ∈ u_ws RX5 TX5 3, w ∈ wsX5_model := by decide +kernel
  refine y_of (cc := cX5_model) (maxL := 2) (ret := (some .int)) (by decide) rfl (Nat.le_of_ble_eq_true rfl) ?_
  intro p e s m args below meth c A Q ls S I Z E hl
  replace hl : lv_has ls 2 [(0, .ref h), (1, .int p1)] := hl
  replace hf := (fX5_model_e _ _ _).symm.trans hf
  refine lv_aload_n S.1 S.2.1 dX5_model_0 rfl (lv_at hl 0 rfl) ?_
  refine x_get (C := RX5) (T := TX5) (N := 3) (ci := 4) (v := .ref (a 1)) S kX5 rfl I 0 1 rfl (by decide) (by decide +kernel) rfl dX5_model_1 ?_
  refine lv_iload_n S.1 S.2.1 dX5_model_4 rfl (lv_at hl 1 rfl) ?_
  obtain ⟨r2, hg1, hf⟩ := x_b1E hf
  refine x_cV (As := [.int p1]) (rest := []) (st' := [.int r2]) (ws' := (wX5 cI cC cZ h a b d z q Fp Gp Fo Go Fz Gz Fq Gq)) S I (tX4_isSet l D cI cC cZ (a 1) z Fz Gz p1 r2 hg1) (cwV 1 S.2.2.2.2 gX5_model_X4_isSet rfl rfl rfl (by decide +kernel) ⟨Nat.le_of_ble_eq_true rfl, Nat.le_of_ble_eq_true rfl⟩) 13 3 rfl rfl rfl [13, 14, 15, 16, 17, 18, 19] [0, 1, 2, 3, 4, 5, 6, 7, 8, 9, 10, 11, 12, 20, 21, 22, 23, 24, 25, 26] [0, 1, 2, 3, 4, 5, 6, 7, 8, 9, 10, 11, 12, 20, 21, 22, 23, 24, 25, 26, 13, 14, 15, 16, 17, 18, 19] rfl rfl rfl rfl (by decide) rfl rfl rfl hl rfl (Nat.le_of_ble_eq_true rfl) ⟨Nat.zero_le _, Nat.zero_le _⟩ rfl dX5_model_5 (fun H locs I => ?_)
  refine lv_if_ne (tgt := 21) S.1 S.2.1 dX5_model_8 (by decide) (fun c3 => ?_) (fun c3 => ?_)
  · replace hf := x_ifF hf c3
    refine lv_aload_n S.1 S.2.1 dX5_model_21 rfl (lv_at hl 0 rfl) ?_
    refine x_get (C := RX5) (T := TX5) (N := 3) (ci := 4) (v := .ref (a 1)) S kX5 rfl I 0 1 rfl (by decide) (by decide +kernel) rfl dX5_model_22 ?_
    obtain ⟨r5, hg4, hf⟩ := x_b1E hf
    refine x_cV (As := []) (rest := []) (st' := [.int r5]) (ws' := (wX5 cI cC cZ h a b d z q Fp Gp Fo Go Fz Gz Fq Gq)) S I (tX4_hasAllModels l D cI cC cZ (a 1) z Fz Gz r5 hg4) (cwV 0 S.2.2.2.2 gX5_model_X4_hasAllModels rfl rfl rfl (by decide +kernel) ⟨Nat.le_of_ble_eq_true rfl, Nat.le_of_ble_eq_true rfl⟩) 13 3 rfl rfl rfl [13, 14, 15, 16, 17, 18, 19] [0, 1, 2, 3, 4, 5, 6, 7, 8, 9, 10, 11, 12, 20, 21, 22, 23, 24, 25, 26] [0, 1, 2, 3, 4, 5, 6, 7, 8, 9, 10, 11, 12, 20, 21, 22, 23, 24, 25, 26, 13, 14, 15, 16, 17, 18, 19] rfl rfl rfl rfl (by decide) rfl rfl rfl hl rfl (Nat.le_of_ble_eq_true rfl) ⟨Nat.zero_le _, Nat.zero_le _⟩ rfl dX5_model_25 (fun H locs I => ?_)
    have hj42 : ∀  (H : Heap) (locs : List Loc) (ls : Array Slot), (fX5_model_j42 Fz Gz) = some res → xI D A s (wX5 cI cC cZ h a b d z q Fp Gp Fo Go Fz Gz Fq Gq) (xT cI cC cZ) H locs → lv_has ls 2 [] → W p l e (headSpec wsX5_model rmX5_model).room s m args below meth c H locs 0 0 Q (F0 m 42 ls []) := by
      intro  H locs ls hf I hl
      replace hf := (fX5_model_j42_e _ _).symm.trans hf
      exact y_throw (cls := yISE) (text := "the model cannot be told") (ik := 45) (is := 144) (ic := 49) S E Z hlf hf (show (2 : Int32) ≠ 0 by decide) I rfl hl (by first | rfl | decide) (by decide) (by decide) (by decide +kernel) (by decide +kernel) rfl (by decide) (fun _ h => List.mem_cons_of_mem _ (List.mem_append_right _ h)) yNg_49 yGd_49 dX5_model_42 dX5_model_45 dX5_model_46 dX5_model_48 dX5_model_51 (Nat.le_of_ble_eq_true rfl) (Nat.le_of_ble_eq_true rfl) (Nat.le_refl _) (Nat.le_refl _)
    refine lv_if_ne (tgt := 42) S.1 S.2.1 dX5_model_28 (by decide) (fun c6 => ?_) (fun c6 => ?_)
    · replace hf := x_ifF hf c6
      exact hj42 _ _ _ hf I (lv_sub hl [] rfl)
    · replace hf := x_ifT hf c6
      refine lv_aload_n S.1 S.2.1 dX5_model_31 rfl (lv_at hl 0 rfl) ?_
      refine x_get (C := RX5) (T := TX5) (N := 3) (ci := 4) (v := .ref (a 1)) S kX5 rfl I 0 1 rfl (by decide) (by decide +kernel) rfl dX5_model_32 ?_
      refine lv_iload_n S.1 S.2.1 dX5_model_35 rfl (lv_at hl 1 rfl) ?_
      obtain ⟨r8, hg7, hf⟩ := x_b1E hf
      refine x_cV (As := [.int p1]) (rest := []) (st' := [.int r8]) (ws' := (wX5 cI cC cZ h a b d z q Fp Gp Fo Go Fz Gz Fq Gq)) S I (tX4_breaksRule l D cI cC cZ (a 1) z Fz Gz p1 r8 hg7) (cwV 1 S.2.2.2.2 gX5_model_X4_breaksRule rfl rfl rfl (by decide +kernel) ⟨Nat.le_of_ble_eq_true rfl, Nat.le_of_ble_eq_true rfl⟩) 13 3 rfl rfl rfl [13, 14, 15, 16, 17, 18, 19] [0, 1, 2, 3, 4, 5, 6, 7, 8, 9, 10, 11, 12, 20, 21, 22, 23, 24, 25, 26] [0, 1, 2, 3, 4, 5, 6, 7, 8, 9, 10, 11, 12, 20, 21, 22, 23, 24, 25, 26, 13, 14, 15, 16, 17, 18, 19] rfl rfl rfl rfl (by decide) rfl rfl rfl hl rfl (Nat.le_of_ble_eq_true rfl) ⟨Nat.zero_le _, Nat.zero_le _⟩ rfl dX5_model_36 (fun H locs I => ?_)
      refine lv_if_eq (tgt := 52) S.1 S.2.1 dX5_model_39 (by decide) (fun c9 => ?_) (fun c9 => ?_)
      · replace hf := x_ifT hf c9
        refine lv_aload_n S.1 S.2.1 dX5_model_52 rfl (lv_at hl 0 rfl) ?_
        refine x_get (C := RX5) (T := TX5) (N := 3) (ci := 4) (v := .ref (a 1)) S kX5 rfl I 0 1 rfl (by decide) (by decide +kernel) rfl dX5_model_53 ?_
        refine lv_iload_n S.1 S.2.1 dX5_model_56 rfl (lv_at hl 1 rfl) ?_
        obtain ⟨r11, F12, G13, hg10, hf⟩ := x_b3E hf
        refine x_cV (As := [.int p1]) (rest := []) (st' := [.int r11]) (ws' := (wX5 cI cC cZ h a b d z q Fp Gp Fo Go F12 G13 Fq Gq)) S I (tX4_addModel l D cI cC cZ (a 1) z Fz Gz p1 (r11, F12, G13) hg10) (cwV 1 S.2.2.2.2 gX5_model_X4_addModel rfl rfl rfl (by decide +kernel) ⟨Nat.le_of_ble_eq_true rfl, Nat.le_of_ble_eq_true rfl⟩) 13 3 rfl rfl rfl [13, 14, 15, 16, 17, 18, 19] [0, 1, 2, 3, 4, 5, 6, 7, 8, 9, 10, 11, 12, 20, 21, 22, 23, 24, 25, 26] [0, 1, 2, 3, 4, 5, 6, 7, 8, 9, 10, 11, 12, 20, 21, 22, 23, 24, 25, 26, 13, 14, 15, 16, 17, 18, 19] rfl rfl rfl rfl (by decide) rfl rfl rfl hl rfl (Nat.le_of_ble_eq_true rfl) ⟨Nat.zero_le _, Nat.zero_le _⟩ rfl dX5_model_57 (fun H locs I => ?_)
        exact y_ri S E rfl rfl hf rfl rfl I rfl dX5_model_60
      · replace hf := x_ifF hf c9
        exact hj42 _ _ _ hf I (lv_sub hl [] rfl)
  · replace hf := x_ifT hf c3
    exact y_throw (cls := yIAE) (text := "the set is out of range") (ik := 34) (is := 136) (ic := 38) S E Z hlf hf (show (1 : Int32) ≠ 0 by decide) I rfl hl (by first | rfl | decide) (by decide) (by decide) (by decide +kernel) (by decide +kernel) rfl (by decide) (fun _ h => List.mem_cons_of_mem _ (List.mem_append_left _ (List.mem_append_right _ h))) yNg_38 yGd_38 dX5_model_11 dX5_model_14 dX5_model_15 dX5_model_17 dX5_model_20 (Nat.le_of_ble_eq_true rfl) (Nat.le_of_ble_eq_true rfl) (Nat.le_refl _) (Nat.le_refl _)
set_option maxHeartbeats 4000000 in
set_option maxRecDepth 100000 in
theorem tX5_proves (l : Launch) (hlf : l.stackTraces = false) (sa : Nat → Nat) (D : va_G) (cI cC cZ : ClassId) (h : Nat) (a b d z q : Nat → Nat) (Fp : xF) (Gp : xG) (Fo : xF) (Go : xG) (Fz : xF) (Gz : xG) (Fq : xF) (Gq : xG) (p1 : Int32) (res : Int32 × Int32) (hf : fX5_proves Fz Gz p1 = some res) : yC l yX5_proves wsX5_proves rmX5_proves exX5_proves D sa [.ref h, .int p1] (wX5 cI cC cZ h a b d z q Fp Gp Fo Go Fz Gz Fq Gq) (fun _ => (wX5 cI cC cZ h a b d z q Fp Gp Fo Go Fz Gz Fq Gq)) (xT cI cC cZ) (fun t => some (.int t.2)) res := by
  have kX5 : ∀ w ∈ u_ws RX5 TX5 3, w ∈ wsX5_proves := by decide +kernel
  refine y_of (cc := cX5_proves) (maxL := 2) (ret := (some .int)) (by decide) rfl (Nat.le_of_ble_eq_true rfl) ?_
  intro p e s m args below meth c A Q ls S I Z E hl
  replace hl : lv_has ls 2 [(0, .ref h), (1, .int p1)] := hl
  replace hf := (fX5_proves_e _ _ _).symm.trans hf
  refine lv_aload_n S.1 S.2.1 dX5_proves_0 rfl (lv_at hl 0 rfl) ?_
  refine x_get (C := RX5) (T := TX5) (N := 3) (ci := 4) (v := .ref (a 1)) S kX5 rfl I 0 1 rfl (by decide) (by decide +kernel) rfl dX5_proves_1 ?_
  refine lv_iload_n S.1 S.2.1 dX5_proves_4 rfl (lv_at hl 1 rfl) ?_
  obtain ⟨r2, hg1, hf⟩ := x_b1E hf
  refine x_cV (As := [.int p1]) (rest := []) (st' := [.int r2]) (ws' := (wX5 cI cC cZ h a b d z q Fp Gp Fo Go Fz Gz Fq Gq)) S I (tX4_isSet l D cI cC cZ (a 1) z Fz Gz p1 r2 hg1) (cwV 1 S.2.2.2.2 gX5_proves_X4_isSet rfl rfl rfl (by decide +kernel) ⟨Nat.le_of_ble_eq_true rfl, Nat.le_of_ble_eq_true rfl⟩) 13 3 rfl rfl rfl [13, 14, 15, 16, 17, 18, 19] [0, 1, 2, 3, 4, 5, 6, 7, 8, 9, 10, 11, 12, 20, 21, 22, 23, 24, 25, 26] [0, 1, 2, 3, 4, 5, 6, 7, 8, 9, 10, 11, 12, 20, 21, 22, 23, 24, 25, 26, 13, 14, 15, 16, 17, 18, 19] rfl rfl rfl rfl (by decide) rfl rfl rfl hl rfl (Nat.le_of_ble_eq_true rfl) ⟨Nat.zero_le _, Nat.zero_le _⟩ rfl dX5_proves_5 (fun H locs I => ?_)
  refine lv_if_ne (tgt := 21) S.1 S.2.1 dX5_proves_8 (by decide) (fun c3 => ?_) (fun c3 => ?_)
  · replace hf := x_ifF hf c3
    refine lv_aload_n S.1 S.2.1 dX5_proves_21 rfl (lv_at hl 0 rfl) ?_
    refine x_get (C := RX5) (T := TX5) (N := 3) (ci := 4) (v := .ref (a 1)) S kX5 rfl I 0 1 rfl (by decide) (by decide +kernel) rfl dX5_proves_22 ?_
    refine lv_iload_n S.1 S.2.1 dX5_proves_25 rfl (lv_at hl 1 rfl) ?_
    obtain ⟨r5, hg4, hf⟩ := x_b1E hf
    refine x_cV (As := [.int p1]) (rest := []) (st' := [.int r5]) (ws' := (wX5 cI cC cZ h a b d z q Fp Gp Fo Go Fz Gz Fq Gq)) S I (tX4_closure l D cI cC cZ (a 1) z Fz Gz p1 r5 hg4) (cwV 1 S.2.2.2.2 gX5_proves_X4_closure rfl rfl rfl (by decide +kernel) ⟨Nat.le_of_ble_eq_true rfl, Nat.le_of_ble_eq_true rfl⟩) 13 3 rfl rfl rfl [13, 14, 15, 16, 17, 18, 19] [0, 1, 2, 3, 4, 5, 6, 7, 8, 9, 10, 11, 12, 20, 21, 22, 23, 24, 25, 26] [0, 1, 2, 3, 4, 5, 6, 7, 8, 9, 10, 11, 12, 20, 21, 22, 23, 24, 25, 26, 13, 14, 15, 16, 17, 18, 19] rfl rfl rfl rfl (by decide) rfl rfl rfl hl rfl (Nat.le_of_ble_eq_true rfl) ⟨Nat.zero_le _, Nat.zero_le _⟩ rfl dX5_proves_26 (fun H locs I => ?_)
    exact y_ri S E rfl rfl hf rfl rfl I rfl dX5_proves_29
  · replace hf := x_ifT hf c3
    exact y_throw (cls := yIAE) (text := "the set is out of range") (ik := 34) (is := 136) (ic := 38) S E Z hlf hf (show (1 : Int32) ≠ 0 by decide) I rfl hl (by first | rfl | decide) (by decide) (by decide) (by decide +kernel) (by decide +kernel) rfl (by decide) (fun _ h => List.mem_cons_of_mem _ (List.mem_append_right _ h)) yNg_38 yGd_38 dX5_proves_11 dX5_proves_14 dX5_proves_15 dX5_proves_17 dX5_proves_20 (Nat.le_of_ble_eq_true rfl) (Nat.le_of_ble_eq_true rfl) (Nat.le_refl _) (Nat.le_refl _)
set_option maxHeartbeats 4000000 in
set_option maxRecDepth 100000 in
theorem tX5_proof (l : Launch) (hlf : l.stackTraces = false) (sa : Nat → Nat) (D : va_G) (cI cC cZ : ClassId) (h : Nat) (a b d z q : Nat → Nat) (Fp : xF) (Gp : xG) (Fo : xF) (Go : xG) (Fz : xF) (Gz : xG) (Fq : xF) (Gq : xG) (p1 p2 p3 : Int32) (res : Int32 × Int32 × xG) (hf : fX5_proof Fz Gz p1 p2 p3 = some res) : yC l yX5_proof wsX5_proof rmX5_proof exX5_proof D sa [.ref h, .int p1, .int p2, .int p3] (wX5 cI cC cZ h a b d z q Fp Gp Fo Go Fz Gz Fq Gq) (fun t => (wX5 cI cC cZ h a b d z q Fp Gp Fo Go Fz t.2.2 Fq Gq)) (xT cI cC cZ) (fun t => some (.int t.2.1)) res := by
  have kX5 : ∀ w ∈ u_ws RX5 TX5 3, w ∈ wsX5_proof := by decide +kernel
  refine y_of (cc := cX5_proof) (maxL := 4) (ret := (some .int)) (by decide) rfl (Nat.le_of_ble_eq_true rfl) ?_
  intro p e s m args below meth c A Q ls S I Z E hl
  replace hl : lv_has ls 4 [(0, .ref h), (1, .int p1), (2, .int p2), (3, .int p3)] := hl
  replace hf := (fX5_proof_e _ _ _ _ _).symm.trans hf
  refine lv_aload_n S.1 S.2.1 dX5_proof_0 rfl (lv_at hl 0 rfl) ?_
  refine x_get (C := RX5) (T := TX5) (N := 3) (ci := 4) (v := .ref (a 1)) S kX5 rfl I 0 1 rfl (by decide) (by decide +kernel) rfl dX5_proof_1 ?_
  refine lv_iload_n S.1 S.2.1 dX5_proof_4 rfl (lv_at hl 2 rfl) ?_
  obtain ⟨r2, hg1, hf⟩ := x_b1E hf
  refine x_cV (As := [.int p2]) (rest := []) (st' := [.int r2]) (ws' := (wX5 cI cC cZ h a b d z q Fp Gp Fo Go Fz Gz Fq Gq)) S I (tX4_hasPrinciple l D cI cC cZ (a 1) z Fz Gz p2 r2 hg1) (cwV 1 S.2.2.2.2 gX5_proof_X4_hasPrinciple rfl rfl rfl (by decide +kernel) ⟨Nat.le_of_ble_eq_true rfl, Nat.le_of_ble_eq_true rfl⟩) 13 3 rfl rfl rfl [13, 14, 15, 16, 17, 18, 19] [0, 1, 2, 3, 4, 5, 6, 7, 8, 9, 10, 11, 12, 20, 21, 22, 23, 24, 25, 26] [0, 1, 2, 3, 4, 5, 6, 7, 8, 9, 10, 11, 12, 20, 21, 22, 23, 24, 25, 26, 13, 14, 15, 16, 17, 18, 19] rfl rfl rfl rfl (by decide) rfl rfl rfl hl rfl (Nat.le_of_ble_eq_true rfl) ⟨Nat.zero_le _, Nat.zero_le _⟩ rfl dX5_proof_5 (fun H locs I => ?_)
  have hj15 : ∀  (H : Heap) (locs : List Loc) (ls : Array Slot), (fX5_proof_j15 Gz) = some res → xI D A s (wX5 cI cC cZ h a b d z q Fp Gp Fo Go Fz Gz Fq Gq) (xT cI cC cZ) H locs → lv_has ls 4 [] → W p l e (headSpec wsX5_proof rmX5_proof).room s m args below meth c H locs 0 0 Q (F0 m 15 ls []) := by
    intro  H locs ls hf I hl
    replace hf := (fX5_proof_j15_e _).symm.trans hf
    exact y_throw (cls := yIOE) (text := "there is no such principle or step") (ik := 112) (is := 153) (ic := 116) S E Z hlf hf (show (1 : Int32) ≠ 0 by decide) I rfl hl (by first | rfl | decide) (by decide) (by decide) (by decide +kernel) (by decide +kernel) rfl (by decide) (fun _ h => List.mem_cons_of_mem _ (List.mem_append_left _ (List.mem_append_right _ h))) yNg_116 yGd_116 dX5_proof_15 dX5_proof_18 dX5_proof_19 dX5_proof_21 dX5_proof_24 (Nat.le_of_ble_eq_true rfl) (Nat.le_of_ble_eq_true rfl) (Nat.le_refl _) (Nat.le_refl _)
  refine lv_if_eq (tgt := 15) S.1 S.2.1 dX5_proof_8 (by decide) (fun c3 => ?_) (fun c3 => ?_)
  · replace hf := x_ifT hf c3
    exact hj15 _ _ _ hf I (lv_sub hl [] rfl)
  · replace hf := x_ifF hf c3
    refine lv_iload_n S.1 S.2.1 dX5_proof_11 rfl (lv_at hl 3 rfl) ?_
    refine lv_if_ge (tgt := 25) S.1 S.2.1 dX5_proof_12 (by decide) (fun c4 => ?_) (fun c4 => ?_)
    · replace hf := x_ifT hf c4
      refine lv_aload_n S.1 S.2.1 dX5_proof_25 rfl (lv_at hl 0 rfl) ?_
      refine x_get (C := RX5) (T := TX5) (N := 3) (ci := 4) (v := .ref (a 1)) S kX5 rfl I 0 1 rfl (by decide) (by decide +kernel) rfl dX5_proof_26 ?_
      refine lv_iload_n S.1 S.2.1 dX5_proof_29 rfl (lv_at hl 1 rfl) ?_
      obtain ⟨r6, hg5, hf⟩ := x_b1E hf
      refine x_cV (As := [.int p1]) (rest := []) (st' := [.int r6]) (ws' := (wX5 cI cC cZ h a b d z q Fp Gp Fo Go Fz Gz Fq Gq)) S I (tX4_isSet l D cI cC cZ (a 1) z Fz Gz p1 r6 hg5) (cwV 1 S.2.2.2.2 gX5_proof_X4_isSet rfl rfl rfl (by decide +kernel) ⟨Nat.le_of_ble_eq_true rfl, Nat.le_of_ble_eq_true rfl⟩) 13 3 rfl rfl rfl [13, 14, 15, 16, 17, 18, 19] [0, 1, 2, 3, 4, 5, 6, 7, 8, 9, 10, 11, 12, 20, 21, 22, 23, 24, 25, 26] [0, 1, 2, 3, 4, 5, 6, 7, 8, 9, 10, 11, 12, 20, 21, 22, 23, 24, 25, 26, 13, 14, 15, 16, 17, 18, 19] rfl rfl rfl rfl (by decide) rfl rfl rfl hl rfl (Nat.le_of_ble_eq_true rfl) ⟨Nat.zero_le _, Nat.zero_le _⟩ rfl dX5_proof_30 (fun H locs I => ?_)
      refine lv_if_ne (tgt := 46) S.1 S.2.1 dX5_proof_33 (by decide) (fun c7 => ?_) (fun c7 => ?_)
      · replace hf := x_ifF hf c7
        refine lv_aload_n S.1 S.2.1 dX5_proof_46 rfl (lv_at hl 0 rfl) ?_
        refine x_get (C := RX5) (T := TX5) (N := 3) (ci := 4) (v := .ref (a 1)) S kX5 rfl I 0 1 rfl (by decide) (by decide +kernel) rfl dX5_proof_47 ?_
        refine lv_iload_n S.1 S.2.1 dX5_proof_50 rfl (lv_at hl 1 rfl) ?_
        refine lv_iload_n S.1 S.2.1 dX5_proof_51 rfl (lv_at hl 2 rfl) ?_
        refine lv_iload_n S.1 S.2.1 dX5_proof_52 rfl (lv_at hl 3 rfl) ?_
        obtain ⟨r9, G10, hg8, hf⟩ := x_b2E hf
        refine x_cV (As := [.int p1, .int p2, .int p3]) (rest := []) (st' := [.int r9]) (ws' := (wX5 cI cC cZ h a b d z q Fp Gp Fo Go Fz G10 Fq Gq)) S I (tX4_proofStep l D cI cC cZ (a 1) z Fz Gz p1 p2 p3 (r9, G10) hg8) (cwV 3 S.2.2.2.2 gX5_proof_X4_proofStep rfl rfl rfl (by decide +kernel) ⟨Nat.le_of_ble_eq_true rfl, Nat.le_of_ble_eq_true rfl⟩) 13 3 rfl rfl rfl [13, 14, 15, 16, 17, 18, 19] [0, 1, 2, 3, 4, 5, 6, 7, 8, 9, 10, 11, 12, 20, 21, 22, 23, 24, 25, 26] [0, 1, 2, 3, 4, 5, 6, 7, 8, 9, 10, 11, 12, 20, 21, 22, 23, 24, 25, 26, 13, 14, 15, 16, 17, 18, 19] rfl rfl rfl rfl (by decide) rfl rfl rfl hl rfl (Nat.le_of_ble_eq_true rfl) ⟨Nat.zero_le _, Nat.zero_le _⟩ rfl dX5_proof_53 (fun H locs I => ?_)
        exact y_ri S E rfl rfl hf rfl rfl I rfl dX5_proof_56
      · replace hf := x_ifT hf c7
        exact y_throw (cls := yIAE) (text := "the set is out of range") (ik := 34) (is := 136) (ic := 38) S E Z hlf hf (show (2 : Int32) ≠ 0 by decide) I rfl hl (by first | rfl | decide) (by decide) (by decide) (by decide +kernel) (by decide +kernel) rfl (by decide) (fun _ h => List.mem_cons_of_mem _ (List.mem_append_right _ h)) yNg_38 yGd_38 dX5_proof_36 dX5_proof_39 dX5_proof_40 dX5_proof_42 dX5_proof_45 (Nat.le_of_ble_eq_true rfl) (Nat.le_of_ble_eq_true rfl) (Nat.le_refl _) (Nat.le_refl _)
    · replace hf := x_ifF hf c4
      exact hj15 _ _ _ hf I (lv_sub hl [] rfl)
set_option maxHeartbeats 4000000 in
set_option maxRecDepth 100000 in
theorem tX5_known (l : Launch) (hlf : l.stackTraces = false) (sa : Nat → Nat) (D : va_G) (cI cC cZ : ClassId) (h : Nat) (a b d z q : Nat → Nat) (Fp : xF) (Gp : xG) (Fo : xF) (Go : xG) (Fz : xF) (Gz : xG) (Fq : xF) (Gq : xG) (p1 p2 : Int32) (res : Int32 × Int32) (hf : fX5_known Fz Gz p1 p2 = some res) : yC l yX5_known wsX5_known rmX5_known exX5_known D sa [.ref h, .int p1, .int p2] (wX5 cI cC cZ h a b d z q Fp Gp Fo Go Fz Gz Fq Gq) (fun _ => (wX5 cI cC cZ h a b d z q Fp Gp Fo Go Fz Gz Fq Gq)) (xT cI cC cZ) (fun t => some (.int t.2)) res := by
  have kX5 : ∀ w ∈ u_ws RX5 TX5 3, w ∈ wsX5_known := by decide +kernel
  refine y_of (cc := cX5_known) (maxL := 3) (ret := (some .int)) (by decide) rfl (Nat.le_of_ble_eq_true rfl) ?_
  intro p e s m args below meth c A Q ls S I Z E hl
  replace hl : lv_has ls 3 [(0, .ref h), (1, .int p1), (2, .int p2)] := hl
  replace hf := (fX5_known_e _ _ _ _).symm.trans hf
  refine lv_aload_n S.1 S.2.1 dX5_known_0 rfl (lv_at hl 0 rfl) ?_
  refine x_get (C := RX5) (T := TX5) (N := 3) (ci := 4) (v := .ref (a 1)) S kX5 rfl I 0 1 rfl (by decide) (by decide +kernel) rfl dX5_known_1 ?_
  refine lv_iload_n S.1 S.2.1 dX5_known_4 rfl (lv_at hl 1 rfl) ?_
  obtain ⟨r2, hg1, hf⟩ := x_b1E hf
  refine x_cV (As := [.int p1]) (rest := []) (st' := [.int r2]) (ws' := (wX5 cI cC cZ h a b d z q Fp Gp Fo Go Fz Gz Fq Gq)) S I (tX4_hasPrinciple l D cI cC cZ (a 1) z Fz Gz p1 r2 hg1) (cwV 1 S.2.2.2.2 gX5_known_X4_hasPrinciple rfl rfl rfl (by decide +kernel) ⟨Nat.le_of_ble_eq_true rfl, Nat.le_of_ble_eq_true rfl⟩) 13 3 rfl rfl rfl [13, 14, 15, 16, 17, 18, 19] [0, 1, 2, 3, 4, 5, 6, 7, 8, 9, 10, 11, 12, 20, 21, 22, 23, 24, 25, 26] [0, 1, 2, 3, 4, 5, 6, 7, 8, 9, 10, 11, 12, 20, 21, 22, 23, 24, 25, 26, 13, 14, 15, 16, 17, 18, 19] rfl rfl rfl rfl (by decide) rfl rfl rfl hl rfl (Nat.le_of_ble_eq_true rfl) ⟨Nat.zero_le _, Nat.zero_le _⟩ rfl dX5_known_5 (fun H locs I => ?_)
  have hj22 : ∀  (H : Heap) (locs : List Loc) (ls : Array Slot), fX5_known_j22 = some res → xI D A s (wX5 cI cC cZ h a b d z q Fp Gp Fo Go Fz Gz Fq Gq) (xT cI cC cZ) H locs → lv_has ls 3 [] → W p l e (headSpec wsX5_known rmX5_known).room s m args below meth c H locs 0 0 Q (F0 m 22 ls []) := by
    intro  H locs ls hf I hl
    replace hf := (fX5_known_j22_e ).symm.trans hf
    exact y_throw (cls := yIOE) (text := "there is no such principle") (ik := 112) (is := 114) (ic := 116) S E Z hlf hf (show (1 : Int32) ≠ 0 by decide) I rfl hl (by first | rfl | decide) (by decide) (by decide) (by decide +kernel) (by decide +kernel) rfl (by decide) (fun _ h => List.mem_cons_of_mem _ (List.mem_append_left _ (List.mem_append_right _ h))) yNg_116 yGd_116 dX5_known_22 dX5_known_25 dX5_known_26 dX5_known_28 dX5_known_31 (Nat.le_of_ble_eq_true rfl) (Nat.le_of_ble_eq_true rfl) (Nat.le_refl _) (Nat.le_refl _)
  refine lv_if_eq (tgt := 22) S.1 S.2.1 dX5_known_8 (by decide) (fun c3 => ?_) (fun c3 => ?_)
  · replace hf := x_ifT hf c3
    exact hj22 _ _ _ hf I (lv_sub hl [] rfl)
  · replace hf := x_ifF hf c3
    refine lv_aload_n S.1 S.2.1 dX5_known_11 rfl (lv_at hl 0 rfl) ?_
    refine x_get (C := RX5) (T := TX5) (N := 3) (ci := 4) (v := .ref (a 1)) S kX5 rfl I 0 1 rfl (by decide) (by decide +kernel) rfl dX5_known_12 ?_
    refine lv_iload_n S.1 S.2.1 dX5_known_15 rfl (lv_at hl 2 rfl) ?_
    obtain ⟨r5, hg4, hf⟩ := x_b1E hf
    refine x_cV (As := [.int p2]) (rest := []) (st' := [.int r5]) (ws' := (wX5 cI cC cZ h a b d z q Fp Gp Fo Go Fz Gz Fq Gq)) S I (tX4_hasPrinciple l D cI cC cZ (a 1) z Fz Gz p2 r5 hg4) (cwV 1 S.2.2.2.2 gX5_known_X4_hasPrinciple rfl rfl rfl (by decide +kernel) ⟨Nat.le_of_ble_eq_true rfl, Nat.le_of_ble_eq_true rfl⟩) 13 3 rfl rfl rfl [13, 14, 15, 16, 17, 18, 19] [0, 1, 2, 3, 4, 5, 6, 7, 8, 9, 10, 11, 12, 20, 21, 22, 23, 24, 25, 26] [0, 1, 2, 3, 4, 5, 6, 7, 8, 9, 10, 11, 12, 20, 21, 22, 23, 24, 25, 26, 13, 14, 15, 16, 17, 18, 19] rfl rfl rfl rfl (by decide) rfl rfl rfl hl rfl (Nat.le_of_ble_eq_true rfl) ⟨Nat.zero_le _, Nat.zero_le _⟩ rfl dX5_known_16 (fun H locs I => ?_)
    refine lv_if_ne (tgt := 32) S.1 S.2.1 dX5_known_19 (by decide) (fun c6 => ?_) (fun c6 => ?_)
    · replace hf := x_ifF hf c6
      refine lv_iload_n S.1 S.2.1 dX5_known_32 rfl (lv_at hl 1 rfl) ?_
      refine lv_iload_n S.1 S.2.1 dX5_known_33 rfl (lv_at hl 2 rfl) ?_
      refine lv_icmp_ne (tgt := 47) S.1 S.2.1 dX5_known_34 (by decide) (fun c7 => ?_) (fun c7 => ?_)
      · replace hf := x_ifF hf c7
        refine lv_aload_n S.1 S.2.1 dX5_known_47 rfl (lv_at hl 0 rfl) ?_
        refine x_get (C := RX5) (T := TX5) (N := 3) (ci := 4) (v := .ref (a 1)) S kX5 rfl I 0 1 rfl (by decide) (by decide +kernel) rfl dX5_known_48 ?_
        refine lv_iload_n S.1 S.2.1 dX5_known_51 rfl (lv_at hl 1 rfl) ?_
        refine lv_iload_n S.1 S.2.1 dX5_known_52 rfl (lv_at hl 2 rfl) ?_
        obtain ⟨r9, hg8, hf⟩ := x_b1E hf
        refine x_cV (As := [.int p1, .int p2]) (rest := []) (st' := [.int r9]) (ws' := (wX5 cI cC cZ h a b d z q Fp Gp Fo Go Fz Gz Fq Gq)) S I (tX4_verdict l D cI cC cZ (a 1) z Fz Gz p1 p2 r9 hg8) (cwV 2 S.2.2.2.2 gX5_known_X4_verdict rfl rfl rfl (by decide +kernel) ⟨Nat.le_of_ble_eq_true rfl, Nat.le_of_ble_eq_true rfl⟩) 13 3 rfl rfl rfl [13, 14, 15, 16, 17, 18, 19] [0, 1, 2, 3, 4, 5, 6, 7, 8, 9, 10, 11, 12, 20, 21, 22, 23, 24, 25, 26] [0, 1, 2, 3, 4, 5, 6, 7, 8, 9, 10, 11, 12, 20, 21, 22, 23, 24, 25, 26, 13, 14, 15, 16, 17, 18, 19] rfl rfl rfl rfl (by decide) rfl rfl rfl hl rfl (Nat.le_of_ble_eq_true rfl) ⟨Nat.zero_le _, Nat.zero_le _⟩ rfl dX5_known_53 (fun H locs I => ?_)
        exact y_ri S E rfl rfl hf rfl rfl I rfl dX5_known_56
      · replace hf := x_ifT hf c7
        exact y_throw (cls := yIAE) (text := "both principles are the same") (ik := 34) (is := 159) (ic := 38) S E Z hlf hf (show (2 : Int32) ≠ 0 by decide) I rfl hl (by first | rfl | decide) (by decide) (by decide) (by decide +kernel) (by decide +kernel) rfl (by decide) (fun _ h => List.mem_cons_of_mem _ (List.mem_append_right _ h)) yNg_38 yGd_38 dX5_known_37 dX5_known_40 dX5_known_41 dX5_known_43 dX5_known_46 (Nat.le_of_ble_eq_true rfl) (Nat.le_of_ble_eq_true rfl) (Nat.le_refl _) (Nat.le_refl _)
    · replace hf := x_ifT hf c6
      exact hj22 _ _ _ hf I (lv_sub hl [] rfl)
set_option maxHeartbeats 4000000 in
set_option maxRecDepth 100000 in
theorem tX5_least (l : Launch) (hlf : l.stackTraces = false) (sa : Nat → Nat) (D : va_G) (cI cC cZ : ClassId) (h : Nat) (a b d z q : Nat → Nat) (Fp : xF) (Gp : xG) (Fo : xF) (Go : xG) (Fz : xF) (Gz : xG) (Fq : xF) (Gq : xG) (p1 p2 : Int32) (res : Int32 × Int32) (hf : fX5_least Fz Gz p1 p2 = some res) : yC l yX5_least wsX5_least rmX5_least exX5_least D sa [.ref h, .int p1, .int p2] (wX5 cI cC cZ h a b d z q Fp Gp Fo Go Fz Gz Fq Gq) (fun _ => (wX5 cI cC cZ h a b d z q Fp Gp Fo Go Fz Gz Fq Gq)) (xT cI cC cZ) (fun t => some (.int t.2)) res := by
  have kX5 : ∀ w ∈ u_ws RX5 TX5 3, w ∈ wsX5_least := by decide +kernel
  refine y_of (cc := cX5_least) (maxL := 3) (ret := (some .int)) (by decide) rfl (Nat.le_of_ble_eq_true rfl) ?_
  intro p e s m args below meth c A Q ls S I Z E hl
  replace hl : lv_has ls 3 [(0, .ref h), (1, .int p1), (2, .int p2)] := hl
  replace hf := (fX5_least_e _ _ _ _).symm.trans hf
  refine lv_aload_n S.1 S.2.1 dX5_least_0 rfl (lv_at hl 0 rfl) ?_
  refine x_get (C := RX5) (T := TX5) (N := 3) (ci := 4) (v := .ref (a 1)) S kX5 rfl I 0 1 rfl (by decide) (by decide +kernel) rfl dX5_least_1 ?_
  refine lv_iload_n S.1 S.2.1 dX5_least_4 rfl (lv_at hl 1 rfl) ?_
  obtain ⟨r2, hg1, hf⟩ := x_b1E hf
  refine x_cV (As := [.int p1]) (rest := []) (st' := [.int r2]) (ws' := (wX5 cI cC cZ h a b d z q Fp Gp Fo Go Fz Gz Fq Gq)) S I (tX4_hasPrinciple l D cI cC cZ (a 1) z Fz Gz p1 r2 hg1) (cwV 1 S.2.2.2.2 gX5_least_X4_hasPrinciple rfl rfl rfl (by decide +kernel) ⟨Nat.le_of_ble_eq_true rfl, Nat.le_of_ble_eq_true rfl⟩) 13 3 rfl rfl rfl [13, 14, 15, 16, 17, 18, 19] [0, 1, 2, 3, 4, 5, 6, 7, 8, 9, 10, 11, 12, 20, 21, 22, 23, 24, 25, 26] [0, 1, 2, 3, 4, 5, 6, 7, 8, 9, 10, 11, 12, 20, 21, 22, 23, 24, 25, 26, 13, 14, 15, 16, 17, 18, 19] rfl rfl rfl rfl (by decide) rfl rfl rfl hl rfl (Nat.le_of_ble_eq_true rfl) ⟨Nat.zero_le _, Nat.zero_le _⟩ rfl dX5_least_5 (fun H locs I => ?_)
  refine lv_if_ne (tgt := 21) S.1 S.2.1 dX5_least_8 (by decide) (fun c3 => ?_) (fun c3 => ?_)
  · replace hf := x_ifF hf c3
    refine lv_aload_n S.1 S.2.1 dX5_least_21 rfl (lv_at hl 0 rfl) ?_
    refine x_get (C := RX5) (T := TX5) (N := 3) (ci := 4) (v := .ref (a 1)) S kX5 rfl I 0 1 rfl (by decide) (by decide +kernel) rfl dX5_least_22 ?_
    refine lv_iload_n S.1 S.2.1 dX5_least_25 rfl (lv_at hl 2 rfl) ?_
    obtain ⟨r5, hg4, hf⟩ := x_b1E hf
    refine x_cV (As := [.int p2]) (rest := []) (st' := [.int r5]) (ws' := (wX5 cI cC cZ h a b d z q Fp Gp Fo Go Fz Gz Fq Gq)) S I (tX4_isSet l D cI cC cZ (a 1) z Fz Gz p2 r5 hg4) (cwV 1 S.2.2.2.2 gX5_least_X4_isSet rfl rfl rfl (by decide +kernel) ⟨Nat.le_of_ble_eq_true rfl, Nat.le_of_ble_eq_true rfl⟩) 13 3 rfl rfl rfl [13, 14, 15, 16, 17, 18, 19] [0, 1, 2, 3, 4, 5, 6, 7, 8, 9, 10, 11, 12, 20, 21, 22, 23, 24, 25, 26] [0, 1, 2, 3, 4, 5, 6, 7, 8, 9, 10, 11, 12, 20, 21, 22, 23, 24, 25, 26, 13, 14, 15, 16, 17, 18, 19] rfl rfl rfl rfl (by decide) rfl rfl rfl hl rfl (Nat.le_of_ble_eq_true rfl) ⟨Nat.zero_le _, Nat.zero_le _⟩ rfl dX5_least_26 (fun H locs I => ?_)
    refine lv_if_ne (tgt := 42) S.1 S.2.1 dX5_least_29 (by decide) (fun c6 => ?_) (fun c6 => ?_)
    · replace hf := x_ifF hf c6
      refine lv_aload_n S.1 S.2.1 dX5_least_42 rfl (lv_at hl 0 rfl) ?_
      refine x_get (C := RX5) (T := TX5) (N := 3) (ci := 4) (v := .ref (a 1)) S kX5 rfl I 0 1 rfl (by decide) (by decide +kernel) rfl dX5_least_43 ?_
      refine lv_iload_n S.1 S.2.1 dX5_least_46 rfl (lv_at hl 1 rfl) ?_
      refine lv_iload_n S.1 S.2.1 dX5_least_47 rfl (lv_at hl 2 rfl) ?_
      obtain ⟨r8, hg7, hf⟩ := x_b1E hf
      refine x_cV (As := [.int p1, .int p2]) (rest := []) (st' := [.int r8]) (ws' := (wX5 cI cC cZ h a b d z q Fp Gp Fo Go Fz Gz Fq Gq)) S I (tX4_leastBySize l D cI cC cZ (a 1) z Fz Gz p1 p2 r8 hg7) (cwV 2 S.2.2.2.2 gX5_least_X4_leastBySize rfl rfl rfl (by decide +kernel) ⟨Nat.le_of_ble_eq_true rfl, Nat.le_of_ble_eq_true rfl⟩) 13 3 rfl rfl rfl [13, 14, 15, 16, 17, 18, 19] [0, 1, 2, 3, 4, 5, 6, 7, 8, 9, 10, 11, 12, 20, 21, 22, 23, 24, 25, 26] [0, 1, 2, 3, 4, 5, 6, 7, 8, 9, 10, 11, 12, 20, 21, 22, 23, 24, 25, 26, 13, 14, 15, 16, 17, 18, 19] rfl rfl rfl rfl (by decide) rfl rfl rfl hl rfl (Nat.le_of_ble_eq_true rfl) ⟨Nat.zero_le _, Nat.zero_le _⟩ rfl dX5_least_48 (fun H locs I => ?_)
      exact y_ri S E rfl rfl hf rfl rfl I rfl dX5_least_51
    · replace hf := x_ifT hf c6
      exact y_throw (cls := yIAE) (text := "the pool is out of range") (ik := 34) (is := 167) (ic := 38) S E Z hlf hf (show (2 : Int32) ≠ 0 by decide) I rfl hl (by first | rfl | decide) (by decide) (by decide) (by decide +kernel) (by decide +kernel) rfl (by decide) (fun _ h => List.mem_cons_of_mem _ (List.mem_append_right _ h)) yNg_38 yGd_38 dX5_least_32 dX5_least_35 dX5_least_36 dX5_least_38 dX5_least_41 (Nat.le_of_ble_eq_true rfl) (Nat.le_of_ble_eq_true rfl) (Nat.le_refl _) (Nat.le_refl _)
  · replace hf := x_ifT hf c3
    exact y_throw (cls := yIOE) (text := "there is no such principle") (ik := 112) (is := 114) (ic := 116) S E Z hlf hf (show (1 : Int32) ≠ 0 by decide) I rfl hl (by first | rfl | decide) (by decide) (by decide) (by decide +kernel) (by decide +kernel) rfl (by decide) (fun _ h => List.mem_cons_of_mem _ (List.mem_append_left _ (List.mem_append_right _ h))) yNg_116 yGd_116 dX5_least_11 dX5_least_14 dX5_least_15 dX5_least_17 dX5_least_20 (Nat.le_of_ble_eq_true rfl) (Nat.le_of_ble_eq_true rfl) (Nat.le_refl _) (Nat.le_refl _)
set_option maxHeartbeats 4000000 in
set_option maxRecDepth 100000 in
theorem tX5_leastAnew (l : Launch) (hlf : l.stackTraces = false) (sa : Nat → Nat) (D : va_G) (cI cC cZ : ClassId) (h : Nat) (a b d z q : Nat → Nat) (Fp : xF) (Gp : xG) (Fo : xF) (Go : xG) (Fz : xF) (Gz : xG) (Fq : xF) (Gq : xG) (p1 p2 : Int32) (res : Int32 × Int32) (hf : fX5_leastAnew Fz Gz p1 p2 = some res) : yC l yX5_leastAnew wsX5_leastAnew rmX5_leastAnew exX5_leastAnew D sa [.ref h, .int p1, .int p2] (wX5 cI cC cZ h a b d z q Fp Gp Fo Go Fz Gz Fq Gq) (fun _ => (wX5 cI cC cZ h a b d z q Fp Gp Fo Go Fz Gz Fq Gq)) (xT cI cC cZ) (fun t => some (.int t.2)) res := by
  have kX5 : ∀ w ∈ u_ws RX5 TX5 3, w ∈ wsX5_leastAnew := by decide +kernel
  refine y_of (cc := cX5_leastAnew) (maxL := 3) (ret := (some .int)) (by decide) rfl (Nat.le_of_ble_eq_true rfl) ?_
  intro p e s m args below meth c A Q ls S I Z E hl
  replace hl : lv_has ls 3 [(0, .ref h), (1, .int p1), (2, .int p2)] := hl
  replace hf := (fX5_leastAnew_e _ _ _ _).symm.trans hf
  refine lv_aload_n S.1 S.2.1 dX5_leastAnew_0 rfl (lv_at hl 0 rfl) ?_
  refine x_get (C := RX5) (T := TX5) (N := 3) (ci := 4) (v := .ref (a 1)) S kX5 rfl I 0 1 rfl (by decide) (by decide +kernel) rfl dX5_leastAnew_1 ?_
  refine lv_iload_n S.1 S.2.1 dX5_leastAnew_4 rfl (lv_at hl 1 rfl) ?_
  obtain ⟨r2, hg1, hf⟩ := x_b1E hf
  refine x_cV (As := [.int p1]) (rest := []) (st' := [.int r2]) (ws' := (wX5 cI cC cZ h a b d z q Fp Gp Fo Go Fz Gz Fq Gq)) S I (tX4_hasPrinciple l D cI cC cZ (a 1) z Fz Gz p1 r2 hg1) (cwV 1 S.2.2.2.2 gX5_leastAnew_X4_hasPrinciple rfl rfl rfl (by decide +kernel) ⟨Nat.le_of_ble_eq_true rfl, Nat.le_of_ble_eq_true rfl⟩) 13 3 rfl rfl rfl [13, 14, 15, 16, 17, 18, 19] [0, 1, 2, 3, 4, 5, 6, 7, 8, 9, 10, 11, 12, 20, 21, 22, 23, 24, 25, 26] [0, 1, 2, 3, 4, 5, 6, 7, 8, 9, 10, 11, 12, 20, 21, 22, 23, 24, 25, 26, 13, 14, 15, 16, 17, 18, 19] rfl rfl rfl rfl (by decide) rfl rfl rfl hl rfl (Nat.le_of_ble_eq_true rfl) ⟨Nat.zero_le _, Nat.zero_le _⟩ rfl dX5_leastAnew_5 (fun H locs I => ?_)
  refine lv_if_ne (tgt := 21) S.1 S.2.1 dX5_leastAnew_8 (by decide) (fun c3 => ?_) (fun c3 => ?_)
  · replace hf := x_ifF hf c3
    refine lv_aload_n S.1 S.2.1 dX5_leastAnew_21 rfl (lv_at hl 0 rfl) ?_
    refine x_get (C := RX5) (T := TX5) (N := 3) (ci := 4) (v := .ref (a 1)) S kX5 rfl I 0 1 rfl (by decide) (by decide +kernel) rfl dX5_leastAnew_22 ?_
    refine lv_iload_n S.1 S.2.1 dX5_leastAnew_25 rfl (lv_at hl 2 rfl) ?_
    obtain ⟨r5, hg4, hf⟩ := x_b1E hf
    refine x_cV (As := [.int p2]) (rest := []) (st' := [.int r5]) (ws' := (wX5 cI cC cZ h a b d z q Fp Gp Fo Go Fz Gz Fq Gq)) S I (tX4_isSet l D cI cC cZ (a 1) z Fz Gz p2 r5 hg4) (cwV 1 S.2.2.2.2 gX5_leastAnew_X4_isSet rfl rfl rfl (by decide +kernel) ⟨Nat.le_of_ble_eq_true rfl, Nat.le_of_ble_eq_true rfl⟩) 13 3 rfl rfl rfl [13, 14, 15, 16, 17, 18, 19] [0, 1, 2, 3, 4, 5, 6, 7, 8, 9, 10, 11, 12, 20, 21, 22, 23, 24, 25, 26] [0, 1, 2, 3, 4, 5, 6, 7, 8, 9, 10, 11, 12, 20, 21, 22, 23, 24, 25, 26, 13, 14, 15, 16, 17, 18, 19] rfl rfl rfl rfl (by decide) rfl rfl rfl hl rfl (Nat.le_of_ble_eq_true rfl) ⟨Nat.zero_le _, Nat.zero_le _⟩ rfl dX5_leastAnew_26 (fun H locs I => ?_)
    refine lv_if_ne (tgt := 42) S.1 S.2.1 dX5_leastAnew_29 (by decide) (fun c6 => ?_) (fun c6 => ?_)
    · replace hf := x_ifF hf c6
      refine lv_aload_n S.1 S.2.1 dX5_leastAnew_42 rfl (lv_at hl 0 rfl) ?_
      refine x_get (C := RX5) (T := TX5) (N := 3) (ci := 4) (v := .ref (a 1)) S kX5 rfl I 0 1 rfl (by decide) (by decide +kernel) rfl dX5_leastAnew_43 ?_
      refine lv_iload_n S.1 S.2.1 dX5_leastAnew_46 rfl (lv_at hl 1 rfl) ?_
      refine lv_iload_n S.1 S.2.1 dX5_leastAnew_47 rfl (lv_at hl 2 rfl) ?_
      obtain ⟨r8, hg7, hf⟩ := x_b1E hf
      refine x_cV (As := [.int p1, .int p2]) (rest := []) (st' := [.int r8]) (ws' := (wX5 cI cC cZ h a b d z q Fp Gp Fo Go Fz Gz Fq Gq)) S I (tX4_leastOfAll l D cI cC cZ (a 1) z Fz Gz p1 p2 r8 hg7) (cwV 2 S.2.2.2.2 gX5_leastAnew_X4_leastOfAll rfl rfl rfl (by decide +kernel) ⟨Nat.le_of_ble_eq_true rfl, Nat.le_of_ble_eq_true rfl⟩) 13 3 rfl rfl rfl [13, 14, 15, 16, 17, 18, 19] [0, 1, 2, 3, 4, 5, 6, 7, 8, 9, 10, 11, 12, 20, 21, 22, 23, 24, 25, 26] [0, 1, 2, 3, 4, 5, 6, 7, 8, 9, 10, 11, 12, 20, 21, 22, 23, 24, 25, 26, 13, 14, 15, 16, 17, 18, 19] rfl rfl rfl rfl (by decide) rfl rfl rfl hl rfl (Nat.le_of_ble_eq_true rfl) ⟨Nat.zero_le _, Nat.zero_le _⟩ rfl dX5_leastAnew_48 (fun H locs I => ?_)
      exact y_ri S E rfl rfl hf rfl rfl I rfl dX5_leastAnew_51
    · replace hf := x_ifT hf c6
      exact y_throw (cls := yIAE) (text := "the pool is out of range") (ik := 34) (is := 167) (ic := 38) S E Z hlf hf (show (2 : Int32) ≠ 0 by decide) I rfl hl (by first | rfl | decide) (by decide) (by decide) (by decide +kernel) (by decide +kernel) rfl (by decide) (fun _ h => List.mem_cons_of_mem _ (List.mem_append_right _ h)) yNg_38 yGd_38 dX5_leastAnew_32 dX5_leastAnew_35 dX5_leastAnew_36 dX5_leastAnew_38 dX5_leastAnew_41 (Nat.le_of_ble_eq_true rfl) (Nat.le_of_ble_eq_true rfl) (Nat.le_refl _) (Nat.le_refl _)
  · replace hf := x_ifT hf c3
    exact y_throw (cls := yIOE) (text := "there is no such principle") (ik := 112) (is := 114) (ic := 116) S E Z hlf hf (show (1 : Int32) ≠ 0 by decide) I rfl hl (by first | rfl | decide) (by decide) (by decide) (by decide +kernel) (by decide +kernel) rfl (by decide) (fun _ h => List.mem_cons_of_mem _ (List.mem_append_left _ (List.mem_append_right _ h))) yNg_116 yGd_116 dX5_leastAnew_11 dX5_leastAnew_14 dX5_leastAnew_15 dX5_leastAnew_17 dX5_leastAnew_20 (Nat.le_of_ble_eq_true rfl) (Nat.le_of_ble_eq_true rfl) (Nat.le_refl _) (Nat.le_refl _)
set_option maxHeartbeats 4000000 in
set_option maxRecDepth 100000 in
theorem tX5_ofPrinciple (l : Launch) (hlf : l.stackTraces = false) (sa : Nat → Nat) (D : va_G) (cI cC cZ : ClassId) (h : Nat) (a b d z q : Nat → Nat) (Fp : xF) (Gp : xG) (Fo : xF) (Go : xG) (Fz : xF) (Gz : xG) (Fq : xF) (Gq : xG) (p1 p2 : Int32) (res : Int32 × Int32) (hf : fX5_ofPrinciple Fz Gz p1 p2 = some res) : yC l yX5_ofPrinciple wsX5_ofPrinciple rmX5_ofPrinciple exX5_ofPrinciple D sa [.ref h, .int p1, .int p2] (wX5 cI cC cZ h a b d z q Fp Gp Fo Go Fz Gz Fq Gq) (fun _ => (wX5 cI cC cZ h a b d z q Fp Gp Fo Go Fz Gz Fq Gq)) (xT cI cC cZ) (fun t => some (.int t.2)) res := by
  have kX5 : ∀ w ∈ u_ws RX5 TX5 3, w ∈ wsX5_ofPrinciple := by decide +kernel
  refine y_of (cc := cX5_ofPrinciple) (maxL := 3) (ret := (some .int)) (by decide) rfl (Nat.le_of_ble_eq_true rfl) ?_
  intro p e s m args below meth c A Q ls S I Z E hl
  replace hl : lv_has ls 3 [(0, .ref h), (1, .int p1), (2, .int p2)] := hl
  replace hf := (fX5_ofPrinciple_e _ _ _ _).symm.trans hf
  refine lv_aload_n S.1 S.2.1 dX5_ofPrinciple_0 rfl (lv_at hl 0 rfl) ?_
  refine x_get (C := RX5) (T := TX5) (N := 3) (ci := 4) (v := .ref (a 1)) S kX5 rfl I 0 1 rfl (by decide) (by decide +kernel) rfl dX5_ofPrinciple_1 ?_
  refine lv_iload_n S.1 S.2.1 dX5_ofPrinciple_4 rfl (lv_at hl 1 rfl) ?_
  obtain ⟨r2, hg1, hf⟩ := x_b1E hf
  refine x_cV (As := [.int p1]) (rest := []) (st' := [.int r2]) (ws' := (wX5 cI cC cZ h a b d z q Fp Gp Fo Go Fz Gz Fq Gq)) S I (tX4_hasPrinciple l D cI cC cZ (a 1) z Fz Gz p1 r2 hg1) (cwV 1 S.2.2.2.2 gX5_ofPrinciple_X4_hasPrinciple rfl rfl rfl (by decide +kernel) ⟨Nat.le_of_ble_eq_true rfl, Nat.le_of_ble_eq_true rfl⟩) 13 3 rfl rfl rfl [13, 14, 15, 16, 17, 18, 19] [0, 1, 2, 3, 4, 5, 6, 7, 8, 9, 10, 11, 12, 20, 21, 22, 23, 24, 25, 26] [0, 1, 2, 3, 4, 5, 6, 7, 8, 9, 10, 11, 12, 20, 21, 22, 23, 24, 25, 26, 13, 14, 15, 16, 17, 18, 19] rfl rfl rfl rfl (by decide) rfl rfl rfl hl rfl (Nat.le_of_ble_eq_true rfl) ⟨Nat.zero_le _, Nat.zero_le _⟩ rfl dX5_ofPrinciple_5 (fun H locs I => ?_)
  refine lv_if_ne (tgt := 21) S.1 S.2.1 dX5_ofPrinciple_8 (by decide) (fun c3 => ?_) (fun c3 => ?_)
  · replace hf := x_ifF hf c3
    refine lv_iload_n S.1 S.2.1 dX5_ofPrinciple_21 rfl (lv_at hl 2 rfl) ?_
    refine lv_iconst (v := 4) S.1 S.2.1 dX5_ofPrinciple_22 (by decide) ?_
    obtain ⟨r5, hg4, hf⟩ := x_b1E hf
    refine x_c0 (As := [.int p2, .int 4]) (rest := []) (st' := [.int r5]) S I rfl (tX5_isBelow l D cI cC cZ p2 4 r5 hg4) (va_cwS 2 S.2.2.2.2 gX5_ofPrinciple_X5_isBelow rfl rfl rfl (by decide +kernel) ⟨Nat.le_of_ble_eq_true rfl, Nat.le_of_ble_eq_true rfl⟩) hl rfl (Nat.le_of_ble_eq_true rfl) ⟨Nat.zero_le _, Nat.zero_le _⟩ rfl dX5_ofPrinciple_23 (fun H locs I => ?_)
    refine lv_if_ne (tgt := 39) S.1 S.2.1 dX5_ofPrinciple_26 (by decide) (fun c6 => ?_) (fun c6 => ?_)
    · replace hf := x_ifF hf c6
      refine lv_aload_n S.1 S.2.1 dX5_ofPrinciple_39 rfl (lv_at hl 0 rfl) ?_
      refine x_get (C := RX5) (T := TX5) (N := 3) (ci := 4) (v := .ref (a 1)) S kX5 rfl I 0 1 rfl (by decide) (by decide +kernel) rfl dX5_ofPrinciple_40 ?_
      refine lv_iload_n S.1 S.2.1 dX5_ofPrinciple_43 rfl (lv_at hl 1 rfl) ?_
      refine lv_iload_n S.1 S.2.1 dX5_ofPrinciple_44 rfl (lv_at hl 2 rfl) ?_
      obtain ⟨r8, hg7, hf⟩ := x_b1E hf
      refine x_cV (As := [.int p1, .int p2]) (rest := []) (st' := [.int r8]) (ws' := (wX5 cI cC cZ h a b d z q Fp Gp Fo Go Fz Gz Fq Gq)) S I (tX4_tell l D cI cC cZ (a 1) z Fz Gz p1 p2 r8 hg7) (cwV 2 S.2.2.2.2 gX5_ofPrinciple_X4_tell rfl rfl rfl (by decide +kernel) ⟨Nat.le_of_ble_eq_true rfl, Nat.le_of_ble_eq_true rfl⟩) 13 3 rfl rfl rfl [13, 14, 15, 16, 17, 18, 19] [0, 1, 2, 3, 4, 5, 6, 7, 8, 9, 10, 11, 12, 20, 21, 22, 23, 24, 25, 26] [0, 1, 2, 3, 4, 5, 6, 7, 8, 9, 10, 11, 12, 20, 21, 22, 23, 24, 25, 26, 13, 14, 15, 16, 17, 18, 19] rfl rfl rfl rfl (by decide) rfl rfl rfl hl rfl (Nat.le_of_ble_eq_true rfl) ⟨Nat.zero_le _, Nat.zero_le _⟩ rfl dX5_ofPrinciple_45 (fun H locs I => ?_)
      exact y_ri S E rfl rfl hf rfl rfl I rfl dX5_ofPrinciple_48
    · replace hf := x_ifT hf c6
      exact y_throw (cls := yIAE) (text := "there is no such thing to tell") (ik := 34) (is := 175) (ic := 38) S E Z hlf hf (show (2 : Int32) ≠ 0 by decide) I rfl hl (by first | rfl | decide) (by decide) (by decide) (by decide +kernel) (by decide +kernel) rfl (by decide) (fun _ h => List.mem_cons_of_mem _ (List.mem_append_right _ h)) yNg_38 yGd_38 dX5_ofPrinciple_29 dX5_ofPrinciple_32 dX5_ofPrinciple_33 dX5_ofPrinciple_35 dX5_ofPrinciple_38 (Nat.le_of_ble_eq_true rfl) (Nat.le_of_ble_eq_true rfl) (Nat.le_refl _) (Nat.le_refl _)
  · replace hf := x_ifT hf c3
    exact y_throw (cls := yIOE) (text := "there is no such principle") (ik := 112) (is := 114) (ic := 116) S E Z hlf hf (show (1 : Int32) ≠ 0 by decide) I rfl hl (by first | rfl | decide) (by decide) (by decide) (by decide +kernel) (by decide +kernel) rfl (by decide) (fun _ h => List.mem_cons_of_mem _ (List.mem_append_left _ (List.mem_append_right _ h))) yNg_116 yGd_116 dX5_ofPrinciple_11 dX5_ofPrinciple_14 dX5_ofPrinciple_15 dX5_ofPrinciple_17 dX5_ofPrinciple_20 (Nat.le_of_ble_eq_true rfl) (Nat.le_of_ble_eq_true rfl) (Nat.le_refl _) (Nat.le_refl _)
set_option maxHeartbeats 4000000 in
set_option maxRecDepth 100000 in
theorem tX5_problem (l : Launch) (hlf : l.stackTraces = false) (sa : Nat → Nat) (D : va_G) (cI cC cZ : ClassId) (h : Nat) (a b d z q : Nat → Nat) (Fp : xF) (Gp : xG) (Fo : xF) (Go : xG) (Fz : xF) (Gz : xG) (Fq : xF) (Gq : xG) (p1 p2 p3 : Int32) (res : Int32 × Int32 × xF × xG) (hf : fX5_problem Fq Gq p1 p2 p3 = some res) : yC l yX5_problem wsX5_problem rmX5_problem exX5_problem D sa [.ref h, .int p1, .int p2, .int p3] (wX5 cI cC cZ h a b d z q Fp Gp Fo Go Fz Gz Fq Gq) (fun t => (wX5 cI cC cZ h a b d z q Fp Gp Fo Go Fz Gz t.2.2.1 t.2.2.2)) (xT cI cC cZ) (fun t => some (.int t.2.1)) res := by
  have kX5 : ∀ w ∈ u_ws RX5 TX5 3, w ∈ wsX5_problem := by decide +kernel
  refine y_of (cc := cX5_problem) (maxL := 4) (ret := (some .int)) (by decide) rfl (Nat.le_of_ble_eq_true rfl) ?_
  intro p e s m args below meth c A Q ls S I Z E hl
  replace hl : lv_has ls 4 [(0, .ref h), (1, .int p1), (2, .int p2), (3, .int p3)] := hl
  replace hf := (fX5_problem_e _ _ _ _ _).symm.trans hf
  refine lv_iload_n S.1 S.2.1 dX5_problem_0 rfl (lv_at hl 1 rfl) ?_
  refine lv_iload_n S.1 S.2.1 dX5_problem_1 rfl (lv_at hl 2 rfl) ?_
  refine lv_iload_n S.1 S.2.1 dX5_problem_2 rfl (lv_at hl 3 rfl) ?_
  obtain ⟨r2, hg1, hf⟩ := x_b1E hf
  refine x_c0 (As := [.int p1, .int p2, .int p3]) (rest := []) (st' := [.int r2]) S I rfl (tX3_areInRange l D cI cC cZ p1 p2 p3 r2 hg1) (va_cwS 3 S.2.2.2.2 gX5_problem_X3_areInRange rfl rfl rfl (by decide +kernel) ⟨Nat.le_of_ble_eq_true rfl, Nat.le_of_ble_eq_true rfl⟩) hl rfl (Nat.le_of_ble_eq_true rfl) ⟨Nat.zero_le _, Nat.zero_le _⟩ rfl dX5_problem_3 (fun H locs I => ?_)
  refine lv_if_ne (tgt := 19) S.1 S.2.1 dX5_problem_6 (by decide) (fun c3 => ?_) (fun c3 => ?_)
  · replace hf := x_ifF hf c3
    refine lv_aload_n S.1 S.2.1 dX5_problem_19 rfl (lv_at hl 0 rfl) ?_
    refine x_get (C := RX5) (T := TX5) (N := 3) (ci := 4) (v := .ref (a 2)) S kX5 rfl I 0 2 rfl (by decide) (by decide +kernel) rfl dX5_problem_20 ?_
    obtain ⟨r5, hg4, hf⟩ := x_b1E hf
    refine x_cV (As := []) (rest := []) (st' := [.int r5]) (ws' := (wX5 cI cC cZ h a b d z q Fp Gp Fo Go Fz Gz Fq Gq)) S I (tX3_hasAll l D cI cC cZ (a 2) q Fq Gq r5 hg4) (cwV 0 S.2.2.2.2 gX5_problem_X3_hasAll rfl rfl rfl (by decide +kernel) ⟨Nat.le_of_ble_eq_true rfl, Nat.le_of_ble_eq_true rfl⟩) 20 2 rfl rfl rfl [20, 21, 22, 23, 24, 25, 26] [0, 1, 2, 3, 4, 5, 6, 7, 8, 9, 10, 11, 12, 13, 14, 15, 16, 17, 18, 19] [0, 1, 2, 3, 4, 5, 6, 7, 8, 9, 10, 11, 12, 13, 14, 15, 16, 17, 18, 19, 20, 21, 22, 23, 24, 25, 26] rfl rfl rfl rfl (by decide) rfl rfl rfl hl rfl (Nat.le_of_ble_eq_true rfl) ⟨Nat.zero_le _, Nat.zero_le _⟩ rfl dX5_problem_23 (fun H locs I => ?_)
    refine lv_if_eq (tgt := 39) S.1 S.2.1 dX5_problem_26 (by decide) (fun c6 => ?_) (fun c6 => ?_)
    · replace hf := x_ifT hf c6
      refine lv_aload_n S.1 S.2.1 dX5_problem_39 rfl (lv_at hl 0 rfl) ?_
      refine x_get (C := RX5) (T := TX5) (N := 3) (ci := 4) (v := .ref (a 2)) S kX5 rfl I 0 2 rfl (by decide) (by decide +kernel) rfl dX5_problem_40 ?_
      refine lv_iload_n S.1 S.2.1 dX5_problem_43 rfl (lv_at hl 1 rfl) ?_
      refine lv_iload_n S.1 S.2.1 dX5_problem_44 rfl (lv_at hl 2 rfl) ?_
      refine lv_iload_n S.1 S.2.1 dX5_problem_45 rfl (lv_at hl 3 rfl) ?_
      obtain ⟨r8, F9, G10, hg7, hf⟩ := x_b3E hf
      refine x_cV (As := [.int p1, .int p2, .int p3]) (rest := []) (st' := [.int r8]) (ws' := (wX5 cI cC cZ h a b d z q Fp Gp Fo Go Fz Gz F9 G10)) S I (tX3_add l D cI cC cZ (a 2) q Fq Gq p1 p2 p3 (r8, F9, G10) hg7) (cwV 3 S.2.2.2.2 gX5_problem_X3_add rfl rfl rfl (by decide +kernel) ⟨Nat.le_of_ble_eq_true rfl, Nat.le_of_ble_eq_true rfl⟩) 20 2 rfl rfl rfl [20, 21, 22, 23, 24, 25, 26] [0, 1, 2, 3, 4, 5, 6, 7, 8, 9, 10, 11, 12, 13, 14, 15, 16, 17, 18, 19] [0, 1, 2, 3, 4, 5, 6, 7, 8, 9, 10, 11, 12, 13, 14, 15, 16, 17, 18, 19, 20, 21, 22, 23, 24, 25, 26] rfl rfl rfl rfl (by decide) rfl rfl rfl hl rfl (Nat.le_of_ble_eq_true rfl) ⟨Nat.zero_le _, Nat.zero_le _⟩ rfl dX5_problem_46 (fun H locs I => ?_)
      exact y_ri S E rfl rfl hf rfl rfl I rfl dX5_problem_49
    · replace hf := x_ifF hf c6
      exact y_throw (cls := yISE) (text := "there are as many problems as can be") (ik := 45) (is := 188) (ic := 49) S E Z hlf hf (show (2 : Int32) ≠ 0 by decide) I rfl hl (by first | rfl | decide) (by decide) (by decide) (by decide +kernel) (by decide +kernel) rfl (by decide) (fun _ h => List.mem_cons_of_mem _ (List.mem_append_right _ h)) yNg_49 yGd_49 dX5_problem_29 dX5_problem_32 dX5_problem_33 dX5_problem_35 dX5_problem_38 (Nat.le_of_ble_eq_true rfl) (Nat.le_of_ble_eq_true rfl) (Nat.le_refl _) (Nat.le_refl _)
  · replace hf := x_ifT hf c3
    exact y_throw (cls := yIAE) (text := "there can be no such problem") (ik := 34) (is := 183) (ic := 38) S E Z hlf hf (show (1 : Int32) ≠ 0 by decide) I rfl hl (by first | rfl | decide) (by decide) (by decide) (by decide +kernel) (by decide +kernel) rfl (by decide) (fun _ h => List.mem_cons_of_mem _ (List.mem_append_left _ (List.mem_append_right _ h))) yNg_38 yGd_38 dX5_problem_9 dX5_problem_12 dX5_problem_13 dX5_problem_15 dX5_problem_18 (Nat.le_of_ble_eq_true rfl) (Nat.le_of_ble_eq_true rfl) (Nat.le_refl _) (Nat.le_refl _)
set_option maxHeartbeats 4000000 in
set_option maxRecDepth 100000 in
theorem tX5_product (l : Launch) (hlf : l.stackTraces = false) (sa : Nat → Nat) (D : va_G) (cI cC cZ : ClassId) (h : Nat) (a b d z q : Nat → Nat) (Fp : xF) (Gp : xG) (Fo : xF) (Go : xG) (Fz : xF) (Gz : xG) (Fq : xF) (Gq : xG) (p1 p2 : Int32) (res : Int32 × Int32 × xF × xG) (hf : fX5_product Fq Gq p1 p2 = some res) : yC l yX5_product wsX5_product rmX5_product exX5_product D sa [.ref h, .int p1, .int p2] (wX5 cI cC cZ h a b d z q Fp Gp Fo Go Fz Gz Fq Gq) (fun t => (wX5 cI cC cZ h a b d z q Fp Gp Fo Go Fz Gz t.2.2.1 t.2.2.2)) (xT cI cC cZ) (fun t => some (.int t.2.1)) res := by
  have kX5 : ∀ w ∈ u_ws RX5 TX5 3, w ∈ wsX5_product := by decide +kernel
  refine y_of (cc := cX5_product) (maxL := 3) (ret := (some .int)) (by decide) rfl (Nat.le_of_ble_eq_true rfl) ?_
  intro p e s m args below meth c A Q ls S I Z E hl
  replace hl : lv_has ls 3 [(0, .ref h), (1, .int p1), (2, .int p2)] := hl
  replace hf := (fX5_product_e _ _ _ _).symm.trans hf
  refine lv_aload_n S.1 S.2.1 dX5_product_0 rfl (lv_at hl 0 rfl) ?_
  refine x_get (C := RX5) (T := TX5) (N := 3) (ci := 4) (v := .ref (a 2)) S kX5 rfl I 0 2 rfl (by decide) (by decide +kernel) rfl dX5_product_1 ?_
  refine lv_iload_n S.1 S.2.1 dX5_product_4 rfl (lv_at hl 1 rfl) ?_
  refine lv_iload_n S.1 S.2.1 dX5_product_5 rfl (lv_at hl 2 rfl) ?_
  obtain ⟨r2, hg1, hf⟩ := x_b1E hf
  refine x_cV (As := [.int p1, .int p2]) (rest := []) (st' := [.int r2]) (ws' := (wX5 cI cC cZ h a b d z q Fp Gp Fo Go Fz Gz Fq Gq)) S I (tX3_hasBoth l D cI cC cZ (a 2) q Fq Gq p1 p2 r2 hg1) (cwV 2 S.2.2.2.2 gX5_product_X3_hasBoth rfl rfl rfl (by decide +kernel) ⟨Nat.le_of_ble_eq_true rfl, Nat.le_of_ble_eq_true rfl⟩) 20 2 rfl rfl rfl [20, 21, 22, 23, 24, 25, 26] [0, 1, 2, 3, 4, 5, 6, 7, 8, 9, 10, 11, 12, 13, 14, 15, 16, 17, 18, 19] [0, 1, 2, 3, 4, 5, 6, 7, 8, 9, 10, 11, 12, 13, 14, 15, 16, 17, 18, 19, 20, 21, 22, 23, 24, 25, 26] rfl rfl rfl rfl (by decide) rfl rfl rfl hl rfl (Nat.le_of_ble_eq_true rfl) ⟨Nat.zero_le _, Nat.zero_le _⟩ rfl dX5_product_6 (fun H locs I => ?_)
  refine lv_if_ne (tgt := 22) S.1 S.2.1 dX5_product_9 (by decide) (fun c3 => ?_) (fun c3 => ?_)
  · replace hf := x_ifF hf c3
    refine lv_aload_n S.1 S.2.1 dX5_product_22 rfl (lv_at hl 0 rfl) ?_
    refine x_get (C := RX5) (T := TX5) (N := 3) (ci := 4) (v := .ref (a 2)) S kX5 rfl I 0 2 rfl (by decide) (by decide +kernel) rfl dX5_product_23 ?_
    obtain ⟨r5, hg4, hf⟩ := x_b1E hf
    refine x_cV (As := []) (rest := []) (st' := [.int r5]) (ws' := (wX5 cI cC cZ h a b d z q Fp Gp Fo Go Fz Gz Fq Gq)) S I (tX3_hasAll l D cI cC cZ (a 2) q Fq Gq r5 hg4) (cwV 0 S.2.2.2.2 gX5_product_X3_hasAll rfl rfl rfl (by decide +kernel) ⟨Nat.le_of_ble_eq_true rfl, Nat.le_of_ble_eq_true rfl⟩) 20 2 rfl rfl rfl [20, 21, 22, 23, 24, 25, 26] [0, 1, 2, 3, 4, 5, 6, 7, 8, 9, 10, 11, 12, 13, 14, 15, 16, 17, 18, 19] [0, 1, 2, 3, 4, 5, 6, 7, 8, 9, 10, 11, 12, 13, 14, 15, 16, 17, 18, 19, 20, 21, 22, 23, 24, 25, 26] rfl rfl rfl rfl (by decide) rfl rfl rfl hl rfl (Nat.le_of_ble_eq_true rfl) ⟨Nat.zero_le _, Nat.zero_le _⟩ rfl dX5_product_26 (fun H locs I => ?_)
    have hj44 : ∀  (H : Heap) (locs : List Loc) (ls : Array Slot), (fX5_product_j44 Fq Gq) = some res → xI D A s (wX5 cI cC cZ h a b d z q Fp Gp Fo Go Fz Gz Fq Gq) (xT cI cC cZ) H locs → lv_has ls 3 [] → W p l e (headSpec wsX5_product rmX5_product).room s m args below meth c H locs 0 0 Q (F0 m 44 ls []) := by
      intro  H locs ls hf I hl
      replace hf := (fX5_product_j44_e _ _).symm.trans hf
      exact y_throw (cls := yISE) (text := "the product cannot be added") (ik := 45) (is := 201) (ic := 49) S E Z hlf hf (show (2 : Int32) ≠ 0 by decide) I rfl hl (by first | rfl | decide) (by decide) (by decide) (by decide +kernel) (by decide +kernel) rfl (by decide) (fun _ h => List.mem_cons_of_mem _ (List.mem_append_right _ h)) yNg_49 yGd_49 dX5_product_44 dX5_product_47 dX5_product_48 dX5_product_50 dX5_product_53 (Nat.le_of_ble_eq_true rfl) (Nat.le_of_ble_eq_true rfl) (Nat.le_refl _) (Nat.le_refl _)
    refine lv_if_ne (tgt := 44) S.1 S.2.1 dX5_product_29 (by decide) (fun c6 => ?_) (fun c6 => ?_)
    · replace hf := x_ifF hf c6
      exact hj44 _ _ _ hf I (lv_sub hl [] rfl)
    · replace hf := x_ifT hf c6
      refine lv_aload_n S.1 S.2.1 dX5_product_32 rfl (lv_at hl 0 rfl) ?_
      refine x_get (C := RX5) (T := TX5) (N := 3) (ci := 4) (v := .ref (a 2)) S kX5 rfl I 0 2 rfl (by decide) (by decide +kernel) rfl dX5_product_33 ?_
      refine lv_iload_n S.1 S.2.1 dX5_product_36 rfl (lv_at hl 1 rfl) ?_
      refine lv_iload_n S.1 S.2.1 dX5_product_37 rfl (lv_at hl 2 rfl) ?_
      obtain ⟨r8, hg7, hf⟩ := x_b1E hf
      refine x_cV (As := [.int p1, .int p2]) (rest := []) (st' := [.int r8]) (ws' := (wX5 cI cC cZ h a b d z q Fp Gp Fo Go Fz Gz Fq Gq)) S I (tX3_canMultiply l D cI cC cZ (a 2) q Fq Gq p1 p2 r8 hg7) (cwV 2 S.2.2.2.2 gX5_product_X3_canMultiply rfl rfl rfl (by decide +kernel) ⟨Nat.le_of_ble_eq_true rfl, Nat.le_of_ble_eq_true rfl⟩) 20 2 rfl rfl rfl [20, 21, 22, 23, 24, 25, 26] [0, 1, 2, 3, 4, 5, 6, 7, 8, 9, 10, 11, 12, 13, 14, 15, 16, 17, 18, 19] [0, 1, 2, 3, 4, 5, 6, 7, 8, 9, 10, 11, 12, 13, 14, 15, 16, 17, 18, 19, 20, 21, 22, 23, 24, 25, 26] rfl rfl rfl rfl (by decide) rfl rfl rfl hl rfl (Nat.le_of_ble_eq_true rfl) ⟨Nat.zero_le _, Nat.zero_le _⟩ rfl dX5_product_38 (fun H locs I => ?_)
      refine lv_if_ne (tgt := 54) S.1 S.2.1 dX5_product_41 (by decide) (fun c9 => ?_) (fun c9 => ?_)
      · replace hf := x_ifF hf c9
        refine lv_aload_n S.1 S.2.1 dX5_product_54 rfl (lv_at hl 0 rfl) ?_
        refine x_get (C := RX5) (T := TX5) (N := 3) (ci := 4) (v := .ref (a 2)) S kX5 rfl I 0 2 rfl (by decide) (by decide +kernel) rfl dX5_product_55 ?_
        refine lv_iload_n S.1 S.2.1 dX5_product_58 rfl (lv_at hl 1 rfl) ?_
        refine lv_iload_n S.1 S.2.1 dX5_product_59 rfl (lv_at hl 2 rfl) ?_
        obtain ⟨r11, F12, G13, hg10, hf⟩ := x_b3E hf
        refine x_cV (As := [.int p1, .int p2]) (rest := []) (st' := [.int r11]) (ws' := (wX5 cI cC cZ h a b d z q Fp Gp Fo Go Fz Gz F12 G13)) S I (tX3_addProduct l D cI cC cZ (a 2) q Fq Gq p1 p2 (r11, F12, G13) hg10) (cwV 2 S.2.2.2.2 gX5_product_X3_addProduct rfl rfl rfl (by decide +kernel) ⟨Nat.le_of_ble_eq_true rfl, Nat.le_of_ble_eq_true rfl⟩) 20 2 rfl rfl rfl [20, 21, 22, 23, 24, 25, 26] [0, 1, 2, 3, 4, 5, 6, 7, 8, 9, 10, 11, 12, 13, 14, 15, 16, 17, 18, 19] [0, 1, 2, 3, 4, 5, 6, 7, 8, 9, 10, 11, 12, 13, 14, 15, 16, 17, 18, 19, 20, 21, 22, 23, 24, 25, 26] rfl rfl rfl rfl (by decide) rfl rfl rfl hl rfl (Nat.le_of_ble_eq_true rfl) ⟨Nat.zero_le _, Nat.zero_le _⟩ rfl dX5_product_60 (fun H locs I => ?_)
        exact y_ri S E rfl rfl hf rfl rfl I rfl dX5_product_63
      · replace hf := x_ifT hf c9
        exact hj44 _ _ _ hf I (lv_sub hl [] rfl)
  · replace hf := x_ifT hf c3
    exact y_throw (cls := yIOE) (text := "there is no such problem") (ik := 112) (is := 196) (ic := 116) S E Z hlf hf (show (1 : Int32) ≠ 0 by decide) I rfl hl (by first | rfl | decide) (by decide) (by decide) (by decide +kernel) (by decide +kernel) rfl (by decide) (fun _ h => List.mem_cons_of_mem _ (List.mem_append_left _ (List.mem_append_right _ h))) yNg_116 yGd_116 dX5_product_12 dX5_product_15 dX5_product_16 dX5_product_18 dX5_product_21 (Nat.le_of_ble_eq_true rfl) (Nat.le_of_ble_eq_true rfl) (Nat.le_refl _) (Nat.le_refl _)
set_option maxHeartbeats 4000000 in
set_option maxRecDepth 100000 in
theorem tX5_reduces (l : Launch) (hlf : l.stackTraces = false) (sa : Nat → Nat) (D : va_G) (cI cC cZ : ClassId) (h : Nat) (a b d z q : Nat → Nat) (Fp : xF) (Gp : xG) (Fo : xF) (Go : xG) (Fz : xF) (Gz : xG) (Fq : xF) (Gq : xG) (p1 p2 : Int32) (res : Int32 × Int32 × xG) (hf : fX5_reduces Fq Gq p1 p2 = some res) : yC l yX5_reduces wsX5_reduces rmX5_reduces exX5_reduces D sa [.ref h, .int p1, .int p2] (wX5 cI cC cZ h a b d z q Fp Gp Fo Go Fz Gz Fq Gq) (fun t => (wX5 cI cC cZ h a b d z q Fp Gp Fo Go Fz Gz Fq t.2.2)) (xT cI cC cZ) (fun t => some (.int t.2.1)) res := by
  have kX5 : ∀ w ∈ u_ws RX5 TX5 3, w ∈ wsX5_reduces := by decide +kernel
  refine y_of (cc := cX5_reduces) (maxL := 3) (ret := (some .int)) (by decide) rfl (Nat.le_of_ble_eq_true rfl) ?_
  intro p e s m args below meth c A Q ls S I Z E hl
  replace hl : lv_has ls 3 [(0, .ref h), (1, .int p1), (2, .int p2)] := hl
  replace hf := (fX5_reduces_e _ _ _ _).symm.trans hf
  refine lv_aload_n S.1 S.2.1 dX5_reduces_0 rfl (lv_at hl 0 rfl) ?_
  refine x_get (C := RX5) (T := TX5) (N := 3) (ci := 4) (v := .ref (a 2)) S kX5 rfl I 0 2 rfl (by decide) (by decide +kernel) rfl dX5_reduces_1 ?_
  refine lv_iload_n S.1 S.2.1 dX5_reduces_4 rfl (lv_at hl 1 rfl) ?_
  refine lv_iload_n S.1 S.2.1 dX5_reduces_5 rfl (lv_at hl 2 rfl) ?_
  obtain ⟨r2, hg1, hf⟩ := x_b1E hf
  refine x_cV (As := [.int p1, .int p2]) (rest := []) (st' := [.int r2]) (ws' := (wX5 cI cC cZ h a b d z q Fp Gp Fo Go Fz Gz Fq Gq)) S I (tX3_hasBoth l D cI cC cZ (a 2) q Fq Gq p1 p2 r2 hg1) (cwV 2 S.2.2.2.2 gX5_reduces_X3_hasBoth rfl rfl rfl (by decide +kernel) ⟨Nat.le_of_ble_eq_true rfl, Nat.le_of_ble_eq_true rfl⟩) 20 2 rfl rfl rfl [20, 21, 22, 23, 24, 25, 26] [0, 1, 2, 3, 4, 5, 6, 7, 8, 9, 10, 11, 12, 13, 14, 15, 16, 17, 18, 19] [0, 1, 2, 3, 4, 5, 6, 7, 8, 9, 10, 11, 12, 13, 14, 15, 16, 17, 18, 19, 20, 21, 22, 23, 24, 25, 26] rfl rfl rfl rfl (by decide) rfl rfl rfl hl rfl (Nat.le_of_ble_eq_true rfl) ⟨Nat.zero_le _, Nat.zero_le _⟩ rfl dX5_reduces_6 (fun H locs I => ?_)
  refine lv_if_ne (tgt := 22) S.1 S.2.1 dX5_reduces_9 (by decide) (fun c3 => ?_) (fun c3 => ?_)
  · replace hf := x_ifF hf c3
    refine lv_aload_n S.1 S.2.1 dX5_reduces_22 rfl (lv_at hl 0 rfl) ?_
    refine x_get (C := RX5) (T := TX5) (N := 3) (ci := 4) (v := .ref (a 2)) S kX5 rfl I 0 2 rfl (by decide) (by decide +kernel) rfl dX5_reduces_23 ?_
    refine lv_iload_n S.1 S.2.1 dX5_reduces_26 rfl (lv_at hl 1 rfl) ?_
    refine lv_iload_n S.1 S.2.1 dX5_reduces_27 rfl (lv_at hl 2 rfl) ?_
    refine lv_iconst (v := 0) S.1 S.2.1 dX5_reduces_28 (by decide) ?_
    obtain ⟨r5, G6, hg4, hf⟩ := x_b2E hf
    refine x_cV (As := [.int p1, .int p2, .int 0]) (rest := []) (st' := [.int r5]) (ws' := (wX5 cI cC cZ h a b d z q Fp Gp Fo Go Fz Gz Fq G6)) S I (tX3_lowestCode l D cI cC cZ (a 2) q Fq Gq p1 p2 0 (r5, G6) hg4) (cwV 3 S.2.2.2.2 gX5_reduces_X3_lowestCode rfl rfl rfl (by decide +kernel) ⟨Nat.le_of_ble_eq_true rfl, Nat.le_of_ble_eq_true rfl⟩) 20 2 rfl rfl rfl [20, 21, 22, 23, 24, 25, 26] [0, 1, 2, 3, 4, 5, 6, 7, 8, 9, 10, 11, 12, 13, 14, 15, 16, 17, 18, 19] [0, 1, 2, 3, 4, 5, 6, 7, 8, 9, 10, 11, 12, 13, 14, 15, 16, 17, 18, 19, 20, 21, 22, 23, 24, 25, 26] rfl rfl rfl rfl (by decide) rfl rfl rfl hl rfl (Nat.le_of_ble_eq_true rfl) ⟨Nat.zero_le _, Nat.zero_le _⟩ rfl dX5_reduces_29 (fun H locs I => ?_)
    exact y_ri S E rfl rfl hf rfl rfl I rfl dX5_reduces_32
  · replace hf := x_ifT hf c3
    exact y_throw (cls := yIOE) (text := "there is no such problem") (ik := 112) (is := 196) (ic := 116) S E Z hlf hf (show (1 : Int32) ≠ 0 by decide) I rfl hl (by first | rfl | decide) (by decide) (by decide) (by decide +kernel) (by decide +kernel) rfl (by decide) (fun _ h => List.mem_cons_of_mem _ (List.mem_append_right _ h)) yNg_116 yGd_116 dX5_reduces_12 dX5_reduces_15 dX5_reduces_16 dX5_reduces_18 dX5_reduces_21 (Nat.le_of_ble_eq_true rfl) (Nat.le_of_ble_eq_true rfl) (Nat.le_refl _) (Nat.le_refl _)
set_option maxHeartbeats 4000000 in
set_option maxRecDepth 100000 in
theorem tX5_reducesAnew (l : Launch) (hlf : l.stackTraces = false) (sa : Nat → Nat) (D : va_G) (cI cC cZ : ClassId) (h : Nat) (a b d z q : Nat → Nat) (Fp : xF) (Gp : xG) (Fo : xF) (Go : xG) (Fz : xF) (Gz : xG) (Fq : xF) (Gq : xG) (p1 p2 : Int32) (res : Int32 × Int32 × xG) (hf : fX5_reducesAnew Fq Gq p1 p2 = some res) : yC l yX5_reducesAnew wsX5_reducesAnew rmX5_reducesAnew exX5_reducesAnew D sa [.ref h, .int p1, .int p2] (wX5 cI cC cZ h a b d z q Fp Gp Fo Go Fz Gz Fq Gq) (fun t => (wX5 cI cC cZ h a b d z q Fp Gp Fo Go Fz Gz Fq t.2.2)) (xT cI cC cZ) (fun t => some (.int t.2.1)) res := by
  have kX5 : ∀ w ∈ u_ws RX5 TX5 3, w ∈ wsX5_reducesAnew := by decide +kernel
  refine y_of (cc := cX5_reducesAnew) (maxL := 3) (ret := (some .int)) (by decide) rfl (Nat.le_of_ble_eq_true rfl) ?_
  intro p e s m args below meth c A Q ls S I Z E hl
  replace hl : lv_has ls 3 [(0, .ref h), (1, .int p1), (2, .int p2)] := hl
  replace hf := (fX5_reducesAnew_e _ _ _ _).symm.trans hf
  refine lv_aload_n S.1 S.2.1 dX5_reducesAnew_0 rfl (lv_at hl 0 rfl) ?_
  refine x_get (C := RX5) (T := TX5) (N := 3) (ci := 4) (v := .ref (a 2)) S kX5 rfl I 0 2 rfl (by decide) (by decide +kernel) rfl dX5_reducesAnew_1 ?_
  refine lv_iload_n S.1 S.2.1 dX5_reducesAnew_4 rfl (lv_at hl 1 rfl) ?_
  refine lv_iload_n S.1 S.2.1 dX5_reducesAnew_5 rfl (lv_at hl 2 rfl) ?_
  obtain ⟨r2, hg1, hf⟩ := x_b1E hf
  refine x_cV (As := [.int p1, .int p2]) (rest := []) (st' := [.int r2]) (ws' := (wX5 cI cC cZ h a b d z q Fp Gp Fo Go Fz Gz Fq Gq)) S I (tX3_hasBoth l D cI cC cZ (a 2) q Fq Gq p1 p2 r2 hg1) (cwV 2 S.2.2.2.2 gX5_reducesAnew_X3_hasBoth rfl rfl rfl (by decide +kernel) ⟨Nat.le_of_ble_eq_true rfl, Nat.le_of_ble_eq_true rfl⟩) 20 2 rfl rfl rfl [20, 21, 22, 23, 24, 25, 26] [0, 1, 2, 3, 4, 5, 6, 7, 8, 9, 10, 11, 12, 13, 14, 15, 16, 17, 18, 19] [0, 1, 2, 3, 4, 5, 6, 7, 8, 9, 10, 11, 12, 13, 14, 15, 16, 17, 18, 19, 20, 21, 22, 23, 24, 25, 26] rfl rfl rfl rfl (by decide) rfl rfl rfl hl rfl (Nat.le_of_ble_eq_true rfl) ⟨Nat.zero_le _, Nat.zero_le _⟩ rfl dX5_reducesAnew_6 (fun H locs I => ?_)
  refine lv_if_ne (tgt := 22) S.1 S.2.1 dX5_reducesAnew_9 (by decide) (fun c3 => ?_) (fun c3 => ?_)
  · replace hf := x_ifF hf c3
    refine lv_aload_n S.1 S.2.1 dX5_reducesAnew_22 rfl (lv_at hl 0 rfl) ?_
    refine x_get (C := RX5) (T := TX5) (N := 3) (ci := 4) (v := .ref (a 2)) S kX5 rfl I 0 2 rfl (by decide) (by decide +kernel) rfl dX5_reducesAnew_23 ?_
    refine lv_iload_n S.1 S.2.1 dX5_reducesAnew_26 rfl (lv_at hl 1 rfl) ?_
    refine lv_iload_n S.1 S.2.1 dX5_reducesAnew_27 rfl (lv_at hl 2 rfl) ?_
    refine lv_iconst (v := 1) S.1 S.2.1 dX5_reducesAnew_28 (by decide) ?_
    obtain ⟨r5, G6, hg4, hf⟩ := x_b2E hf
    refine x_cV (As := [.int p1, .int p2, .int 1]) (rest := []) (st' := [.int r5]) (ws' := (wX5 cI cC cZ h a b d z q Fp Gp Fo Go Fz Gz Fq G6)) S I (tX3_lowestCode l D cI cC cZ (a 2) q Fq Gq p1 p2 1 (r5, G6) hg4) (cwV 3 S.2.2.2.2 gX5_reducesAnew_X3_lowestCode rfl rfl rfl (by decide +kernel) ⟨Nat.le_of_ble_eq_true rfl, Nat.le_of_ble_eq_true rfl⟩) 20 2 rfl rfl rfl [20, 21, 22, 23, 24, 25, 26] [0, 1, 2, 3, 4, 5, 6, 7, 8, 9, 10, 11, 12, 13, 14, 15, 16, 17, 18, 19] [0, 1, 2, 3, 4, 5, 6, 7, 8, 9, 10, 11, 12, 13, 14, 15, 16, 17, 18, 19, 20, 21, 22, 23, 24, 25, 26] rfl rfl rfl rfl (by decide) rfl rfl rfl hl rfl (Nat.le_of_ble_eq_true rfl) ⟨Nat.zero_le _, Nat.zero_le _⟩ rfl dX5_reducesAnew_29 (fun H locs I => ?_)
    exact y_ri S E rfl rfl hf rfl rfl I rfl dX5_reducesAnew_32
  · replace hf := x_ifT hf c3
    exact y_throw (cls := yIOE) (text := "there is no such problem") (ik := 112) (is := 196) (ic := 116) S E Z hlf hf (show (1 : Int32) ≠ 0 by decide) I rfl hl (by first | rfl | decide) (by decide) (by decide) (by decide +kernel) (by decide +kernel) rfl (by decide) (fun _ h => List.mem_cons_of_mem _ (List.mem_append_right _ h)) yNg_116 yGd_116 dX5_reducesAnew_12 dX5_reducesAnew_15 dX5_reducesAnew_16 dX5_reducesAnew_18 dX5_reducesAnew_21 (Nat.le_of_ble_eq_true rfl) (Nat.le_of_ble_eq_true rfl) (Nat.le_refl _) (Nat.le_refl _)
set_option maxHeartbeats 4000000 in
set_option maxRecDepth 100000 in
theorem tX5_forth (l : Launch) (hlf : l.stackTraces = false) (sa : Nat → Nat) (D : va_G) (cI cC cZ : ClassId) (h : Nat) (a b d z q : Nat → Nat) (Fp : xF) (Gp : xG) (Fo : xF) (Go : xG) (Fz : xF) (Gz : xG) (Fq : xF) (Gq : xG) (p1 p2 p3 : Int32) (res : Int32 × Int32 × xG) (hf : fX5_forth Fq Gq p1 p2 p3 = some res) : yC l yX5_forth wsX5_forth rmX5_forth exX5_forth D sa [.ref h, .int p1, .int p2, .int p3] (wX5 cI cC cZ h a b d z q Fp Gp Fo Go Fz Gz Fq Gq) (fun t => (wX5 cI cC cZ h a b d z q Fp Gp Fo Go Fz Gz Fq t.2.2)) (xT cI cC cZ) (fun t => some (.int t.2.1)) res := by
  have kX5 : ∀ w ∈ u_ws RX5 TX5 3, w ∈ wsX5_forth := by decide +kernel
  refine y_of (cc := cX5_forth) (maxL := 4) (ret := (some .int)) (by decide) rfl (Nat.le_of_ble_eq_true rfl) ?_
  intro p e s m args below meth c A Q ls S I Z E hl
  replace hl : lv_has ls 4 [(0, .ref h), (1, .int p1), (2, .int p2), (3, .int p3)] := hl
  replace hf := (fX5_forth_e _ _ _ _ _).symm.trans hf
  refine lv_aload_n S.1 S.2.1 dX5_forth_0 rfl (lv_at hl 0 rfl) ?_
  refine x_get (C := RX5) (T := TX5) (N := 3) (ci := 4) (v := .ref (a 2)) S kX5 rfl I 0 2 rfl (by decide) (by decide +kernel) rfl dX5_forth_1 ?_
  refine lv_iload_n S.1 S.2.1 dX5_forth_4 rfl (lv_at hl 1 rfl) ?_
  refine lv_iload_n S.1 S.2.1 dX5_forth_5 rfl (lv_at hl 2 rfl) ?_
  obtain ⟨r2, hg1, hf⟩ := x_b1E hf
  refine x_cV (As := [.int p1, .int p2]) (rest := []) (st' := [.int r2]) (ws' := (wX5 cI cC cZ h a b d z q Fp Gp Fo Go Fz Gz Fq Gq)) S I (tX3_hasBoth l D cI cC cZ (a 2) q Fq Gq p1 p2 r2 hg1) (cwV 2 S.2.2.2.2 gX5_forth_X3_hasBoth rfl rfl rfl (by decide +kernel) ⟨Nat.le_of_ble_eq_true rfl, Nat.le_of_ble_eq_true rfl⟩) 20 2 rfl rfl rfl [20, 21, 22, 23, 24, 25, 26] [0, 1, 2, 3, 4, 5, 6, 7, 8, 9, 10, 11, 12, 13, 14, 15, 16, 17, 18, 19] [0, 1, 2, 3, 4, 5, 6, 7, 8, 9, 10, 11, 12, 13, 14, 15, 16, 17, 18, 19, 20, 21, 22, 23, 24, 25, 26] rfl rfl rfl rfl (by decide) rfl rfl rfl hl rfl (Nat.le_of_ble_eq_true rfl) ⟨Nat.zero_le _, Nat.zero_le _⟩ rfl dX5_forth_6 (fun H locs I => ?_)
  have hj24 : ∀  (H : Heap) (locs : List Loc) (ls : Array Slot), (fX5_forth_j24 Gq) = some res → xI D A s (wX5 cI cC cZ h a b d z q Fp Gp Fo Go Fz Gz Fq Gq) (xT cI cC cZ) H locs → lv_has ls 4 [] → W p l e (headSpec wsX5_forth rmX5_forth).room s m args below meth c H locs 0 0 Q (F0 m 24 ls []) := by
    intro  H locs ls hf I hl
    replace hf := (fX5_forth_j24_e _).symm.trans hf
    exact y_throw (cls := yIOE) (text := "there is no such problem or instance") (ik := 112) (is := 213) (ic := 116) S E Z hlf hf (show (1 : Int32) ≠ 0 by decide) I rfl hl (by first | rfl | decide) (by decide) (by decide) (by decide +kernel) (by decide +kernel) rfl (by decide) (fun _ h => List.mem_cons_of_mem _ (List.mem_append_right _ h)) yNg_116 yGd_116 dX5_forth_24 dX5_forth_27 dX5_forth_28 dX5_forth_30 dX5_forth_33 (Nat.le_of_ble_eq_true rfl) (Nat.le_of_ble_eq_true rfl) (Nat.le_refl _) (Nat.le_refl _)
  refine lv_if_eq (tgt := 24) S.1 S.2.1 dX5_forth_9 (by decide) (fun c3 => ?_) (fun c3 => ?_)
  · replace hf := x_ifT hf c3
    exact hj24 _ _ _ hf I (lv_sub hl [] rfl)
  · replace hf := x_ifF hf c3
    refine lv_aload_n S.1 S.2.1 dX5_forth_12 rfl (lv_at hl 0 rfl) ?_
    refine x_get (C := RX5) (T := TX5) (N := 3) (ci := 4) (v := .ref (a 2)) S kX5 rfl I 0 2 rfl (by decide) (by decide +kernel) rfl dX5_forth_13 ?_
    refine lv_iload_n S.1 S.2.1 dX5_forth_16 rfl (lv_at hl 1 rfl) ?_
    refine lv_iload_n S.1 S.2.1 dX5_forth_17 rfl (lv_at hl 3 rfl) ?_
    obtain ⟨r5, hg4, hf⟩ := x_b1E hf
    refine x_cV (As := [.int p1, .int p3]) (rest := []) (st' := [.int r5]) (ws' := (wX5 cI cC cZ h a b d z q Fp Gp Fo Go Fz Gz Fq Gq)) S I (tX3_hasInstance l D cI cC cZ (a 2) q Fq Gq p1 p3 r5 hg4) (cwV 2 S.2.2.2.2 gX5_forth_X3_hasInstance rfl rfl rfl (by decide +kernel) ⟨Nat.le_of_ble_eq_true rfl, Nat.le_of_ble_eq_true rfl⟩) 20 2 rfl rfl rfl [20, 21, 22, 23, 24, 25, 26] [0, 1, 2, 3, 4, 5, 6, 7, 8, 9, 10, 11, 12, 13, 14, 15, 16, 17, 18, 19] [0, 1, 2, 3, 4, 5, 6, 7, 8, 9, 10, 11, 12, 13, 14, 15, 16, 17, 18, 19, 20, 21, 22, 23, 24, 25, 26] rfl rfl rfl rfl (by decide) rfl rfl rfl hl rfl (Nat.le_of_ble_eq_true rfl) ⟨Nat.zero_le _, Nat.zero_le _⟩ rfl dX5_forth_18 (fun H locs I => ?_)
    refine lv_if_ne (tgt := 34) S.1 S.2.1 dX5_forth_21 (by decide) (fun c6 => ?_) (fun c6 => ?_)
    · replace hf := x_ifF hf c6
      refine lv_aload_n S.1 S.2.1 dX5_forth_34 rfl (lv_at hl 0 rfl) ?_
      refine x_get (C := RX5) (T := TX5) (N := 3) (ci := 4) (v := .ref (a 2)) S kX5 rfl I 0 2 rfl (by decide) (by decide +kernel) rfl dX5_forth_35 ?_
      refine lv_iload_n S.1 S.2.1 dX5_forth_38 rfl (lv_at hl 1 rfl) ?_
      refine lv_iload_n S.1 S.2.1 dX5_forth_39 rfl (lv_at hl 2 rfl) ?_
      refine lv_iload_n S.1 S.2.1 dX5_forth_40 rfl (lv_at hl 3 rfl) ?_
      obtain ⟨r8, G9, hg7, hf⟩ := x_b2E hf
      refine x_cV (As := [.int p1, .int p2, .int p3]) (rest := []) (st' := [.int r8]) (ws' := (wX5 cI cC cZ h a b d z q Fp Gp Fo Go Fz Gz Fq G9)) S I (tX3_forthOf l D cI cC cZ (a 2) q Fq Gq p1 p2 p3 (r8, G9) hg7) (cwV 3 S.2.2.2.2 gX5_forth_X3_forthOf rfl rfl rfl (by decide +kernel) ⟨Nat.le_of_ble_eq_true rfl, Nat.le_of_ble_eq_true rfl⟩) 20 2 rfl rfl rfl [20, 21, 22, 23, 24, 25, 26] [0, 1, 2, 3, 4, 5, 6, 7, 8, 9, 10, 11, 12, 13, 14, 15, 16, 17, 18, 19] [0, 1, 2, 3, 4, 5, 6, 7, 8, 9, 10, 11, 12, 13, 14, 15, 16, 17, 18, 19, 20, 21, 22, 23, 24, 25, 26] rfl rfl rfl rfl (by decide) rfl rfl rfl hl rfl (Nat.le_of_ble_eq_true rfl) ⟨Nat.zero_le _, Nat.zero_le _⟩ rfl dX5_forth_41 (fun H locs I => ?_)
      exact y_ri S E rfl rfl hf rfl rfl I rfl dX5_forth_44
    · replace hf := x_ifT hf c6
      exact hj24 _ _ _ hf I (lv_sub hl [] rfl)
set_option maxHeartbeats 4000000 in
set_option maxRecDepth 100000 in
theorem tX5_ofProblem (l : Launch) (hlf : l.stackTraces = false) (sa : Nat → Nat) (D : va_G) (cI cC cZ : ClassId) (h : Nat) (a b d z q : Nat → Nat) (Fp : xF) (Gp : xG) (Fo : xF) (Go : xG) (Fz : xF) (Gz : xG) (Fq : xF) (Gq : xG) (p1 p2 : Int32) (res : Int32 × Int32) (hf : fX5_ofProblem Fq Gq p1 p2 = some res) : yC l yX5_ofProblem wsX5_ofProblem rmX5_ofProblem exX5_ofProblem D sa [.ref h, .int p1, .int p2] (wX5 cI cC cZ h a b d z q Fp Gp Fo Go Fz Gz Fq Gq) (fun _ => (wX5 cI cC cZ h a b d z q Fp Gp Fo Go Fz Gz Fq Gq)) (xT cI cC cZ) (fun t => some (.int t.2)) res := by
  have kX5 : ∀ w ∈ u_ws RX5 TX5 3, w ∈ wsX5_ofProblem := by decide +kernel
  refine y_of (cc := cX5_ofProblem) (maxL := 3) (ret := (some .int)) (by decide) rfl (Nat.le_of_ble_eq_true rfl) ?_
  intro p e s m args below meth c A Q ls S I Z E hl
  replace hl : lv_has ls 3 [(0, .ref h), (1, .int p1), (2, .int p2)] := hl
  replace hf := (fX5_ofProblem_e _ _ _ _).symm.trans hf
  refine lv_aload_n S.1 S.2.1 dX5_ofProblem_0 rfl (lv_at hl 0 rfl) ?_
  refine x_get (C := RX5) (T := TX5) (N := 3) (ci := 4) (v := .ref (a 2)) S kX5 rfl I 0 2 rfl (by decide) (by decide +kernel) rfl dX5_ofProblem_1 ?_
  refine lv_iload_n S.1 S.2.1 dX5_ofProblem_4 rfl (lv_at hl 1 rfl) ?_
  obtain ⟨r2, hg1, hf⟩ := x_b1E hf
  refine x_cV (As := [.int p1]) (rest := []) (st' := [.int r2]) (ws' := (wX5 cI cC cZ h a b d z q Fp Gp Fo Go Fz Gz Fq Gq)) S I (tX3_hasNumber l D cI cC cZ (a 2) q Fq Gq p1 r2 hg1) (cwV 1 S.2.2.2.2 gX5_ofProblem_X3_hasNumber rfl rfl rfl (by decide +kernel) ⟨Nat.le_of_ble_eq_true rfl, Nat.le_of_ble_eq_true rfl⟩) 20 2 rfl rfl rfl [20, 21, 22, 23, 24, 25, 26] [0, 1, 2, 3, 4, 5, 6, 7, 8, 9, 10, 11, 12, 13, 14, 15, 16, 17, 18, 19] [0, 1, 2, 3, 4, 5, 6, 7, 8, 9, 10, 11, 12, 13, 14, 15, 16, 17, 18, 19, 20, 21, 22, 23, 24, 25, 26] rfl rfl rfl rfl (by decide) rfl rfl rfl hl rfl (Nat.le_of_ble_eq_true rfl) ⟨Nat.zero_le _, Nat.zero_le _⟩ rfl dX5_ofProblem_5 (fun H locs I => ?_)
  refine lv_if_ne (tgt := 21) S.1 S.2.1 dX5_ofProblem_8 (by decide) (fun c3 => ?_) (fun c3 => ?_)
  · replace hf := x_ifF hf c3
    refine lv_iload_n S.1 S.2.1 dX5_ofProblem_21 rfl (lv_at hl 2 rfl) ?_
    refine lv_iconst (v := 3) S.1 S.2.1 dX5_ofProblem_22 (by decide) ?_
    obtain ⟨r5, hg4, hf⟩ := x_b1E hf
    refine x_c0 (As := [.int p2, .int 3]) (rest := []) (st' := [.int r5]) S I rfl (tX5_isBelow l D cI cC cZ p2 3 r5 hg4) (va_cwS 2 S.2.2.2.2 gX5_ofProblem_X5_isBelow rfl rfl rfl (by decide +kernel) ⟨Nat.le_of_ble_eq_true rfl, Nat.le_of_ble_eq_true rfl⟩) hl rfl (Nat.le_of_ble_eq_true rfl) ⟨Nat.zero_le _, Nat.zero_le _⟩ rfl dX5_ofProblem_23 (fun H locs I => ?_)
    refine lv_if_ne (tgt := 39) S.1 S.2.1 dX5_ofProblem_26 (by decide) (fun c6 => ?_) (fun c6 => ?_)
    · replace hf := x_ifF hf c6
      refine lv_aload_n S.1 S.2.1 dX5_ofProblem_39 rfl (lv_at hl 0 rfl) ?_
      refine x_get (C := RX5) (T := TX5) (N := 3) (ci := 4) (v := .ref (a 2)) S kX5 rfl I 0 2 rfl (by decide) (by decide +kernel) rfl dX5_ofProblem_40 ?_
      refine lv_iload_n S.1 S.2.1 dX5_ofProblem_43 rfl (lv_at hl 1 rfl) ?_
      refine lv_iload_n S.1 S.2.1 dX5_ofProblem_44 rfl (lv_at hl 2 rfl) ?_
      obtain ⟨r8, hg7, hf⟩ := x_b1E hf
      refine x_cV (As := [.int p1, .int p2]) (rest := []) (st' := [.int r8]) (ws' := (wX5 cI cC cZ h a b d z q Fp Gp Fo Go Fz Gz Fq Gq)) S I (tX3_tell l D cI cC cZ (a 2) q Fq Gq p1 p2 r8 hg7) (cwV 2 S.2.2.2.2 gX5_ofProblem_X3_tell rfl rfl rfl (by decide +kernel) ⟨Nat.le_of_ble_eq_true rfl, Nat.le_of_ble_eq_true rfl⟩) 20 2 rfl rfl rfl [20, 21, 22, 23, 24, 25, 26] [0, 1, 2, 3, 4, 5, 6, 7, 8, 9, 10, 11, 12, 13, 14, 15, 16, 17, 18, 19] [0, 1, 2, 3, 4, 5, 6, 7, 8, 9, 10, 11, 12, 13, 14, 15, 16, 17, 18, 19, 20, 21, 22, 23, 24, 25, 26] rfl rfl rfl rfl (by decide) rfl rfl rfl hl rfl (Nat.le_of_ble_eq_true rfl) ⟨Nat.zero_le _, Nat.zero_le _⟩ rfl dX5_ofProblem_45 (fun H locs I => ?_)
      exact y_ri S E rfl rfl hf rfl rfl I rfl dX5_ofProblem_48
    · replace hf := x_ifT hf c6
      exact y_throw (cls := yIAE) (text := "there is no such thing to tell") (ik := 34) (is := 175) (ic := 38) S E Z hlf hf (show (2 : Int32) ≠ 0 by decide) I rfl hl (by first | rfl | decide) (by decide) (by decide) (by decide +kernel) (by decide +kernel) rfl (by decide) (fun _ h => List.mem_cons_of_mem _ (List.mem_append_right _ h)) yNg_38 yGd_38 dX5_ofProblem_29 dX5_ofProblem_32 dX5_ofProblem_33 dX5_ofProblem_35 dX5_ofProblem_38 (Nat.le_of_ble_eq_true rfl) (Nat.le_of_ble_eq_true rfl) (Nat.le_refl _) (Nat.le_refl _)
  · replace hf := x_ifT hf c3
    exact y_throw (cls := yIOE) (text := "there is no such problem") (ik := 112) (is := 196) (ic := 116) S E Z hlf hf (show (1 : Int32) ≠ 0 by decide) I rfl hl (by first | rfl | decide) (by decide) (by decide) (by decide +kernel) (by decide +kernel) rfl (by decide) (fun _ h => List.mem_cons_of_mem _ (List.mem_append_left _ (List.mem_append_right _ h))) yNg_116 yGd_116 dX5_ofProblem_11 dX5_ofProblem_14 dX5_ofProblem_15 dX5_ofProblem_17 dX5_ofProblem_20 (Nat.le_of_ble_eq_true rfl) (Nat.le_of_ble_eq_true rfl) (Nat.le_refl _) (Nat.le_refl _)
set_option maxHeartbeats 4000000 in
set_option maxRecDepth 100000 in
theorem tX5_has (l : Launch) (hlf : l.stackTraces = false) (sa : Nat → Nat) (D : va_G) (cI cC cZ : ClassId) (h : Nat) (a b d z q : Nat → Nat) (Fp : xF) (Gp : xG) (Fo : xF) (Go : xG) (Fz : xF) (Gz : xG) (Fq : xF) (Gq : xG) (p1 p2 : Int32) (res : Int32 × Int32) (hf : fX5_has p1 p2 = some res) : yC l yX5_has wsX5_has rmX5_has exX5_has D sa [.ref h, .int p1, .int p2] (wX5 cI cC cZ h a b d z q Fp Gp Fo Go Fz Gz Fq Gq) (fun _ => (wX5 cI cC cZ h a b d z q Fp Gp Fo Go Fz Gz Fq Gq)) (xT cI cC cZ) (fun t => some (.int t.2)) res := by
  refine y_of (cc := cX5_has) (maxL := 3) (ret := (some .boolean)) (by decide) rfl (Nat.le_of_ble_eq_true rfl) ?_
  intro p e s m args below meth c A Q ls S I Z E hl
  replace hl : lv_has ls 3 [(0, .ref h), (1, .int p1), (2, .int p2)] := hl
  replace hf := (fX5_has_e _ _).symm.trans hf
  refine lv_iload_n S.1 S.2.1 dX5_has_0 rfl (lv_at hl 1 rfl) ?_
  refine lv_iload_n S.1 S.2.1 dX5_has_1 rfl (lv_at hl 2 rfl) ?_
  obtain ⟨r2, hg1, hf⟩ := x_b1E hf
  refine x_c0 (As := [.int p1, .int p2]) (rest := []) (st' := [.int r2]) S I rfl (tX1_isInRange l D cI cC cZ p1 p2 r2 hg1) (va_cwS 2 S.2.2.2.2 gX5_has_X1_isInRange rfl rfl rfl (by decide +kernel) ⟨Nat.le_of_ble_eq_true rfl, Nat.le_of_ble_eq_true rfl⟩) hl rfl (Nat.le_of_ble_eq_true rfl) ⟨Nat.zero_le _, Nat.zero_le _⟩ rfl dX5_has_2 (fun H locs I => ?_)
  refine lv_if_ne (tgt := 18) S.1 S.2.1 dX5_has_5 (by decide) (fun c3 => ?_) (fun c3 => ?_)
  · replace hf := x_ifF hf c3
    refine lv_iload_n S.1 S.2.1 dX5_has_18 rfl (lv_at hl 1 rfl) ?_
    refine lv_iload_n S.1 S.2.1 dX5_has_19 rfl (lv_at hl 2 rfl) ?_
    obtain ⟨r5, hg4, hf⟩ := x_b1E hf
    refine x_c0 (As := [.int p1, .int p2]) (rest := []) (st' := [.int r5]) S I rfl (tX1_isWonBackwards l D cI cC cZ p1 p2 r5 hg4) (va_cwS 2 S.2.2.2.2 gX5_has_X1_isWonBackwards rfl rfl rfl (by decide +kernel) ⟨Nat.le_of_ble_eq_true rfl, Nat.le_of_ble_eq_true rfl⟩) hl rfl (Nat.le_of_ble_eq_true rfl) ⟨Nat.zero_le _, Nat.zero_le _⟩ rfl dX5_has_20 (fun H locs I => ?_)
    exact y_ri S E rfl rfl hf rfl rfl I rfl dX5_has_23
  · replace hf := x_ifT hf c3
    exact y_throw (cls := yIAE) (text := "there is no such game") (ik := 34) (is := 227) (ic := 38) S E Z hlf hf (show (1 : Int32) ≠ 0 by decide) I rfl hl (by first | rfl | decide) (by decide) (by decide) (by decide +kernel) (by decide +kernel) rfl (by decide) (fun _ h => List.mem_cons_of_mem _ (List.mem_append_right _ h)) yNg_38 yGd_38 dX5_has_8 dX5_has_11 dX5_has_12 dX5_has_14 dX5_has_17 (Nat.le_of_ble_eq_true rfl) (Nat.le_of_ble_eq_true rfl) (Nat.le_refl _) (Nat.le_refl _)
set_option maxHeartbeats 4000000 in
set_option maxRecDepth 100000 in
theorem tX5_hasAnew (l : Launch) (hlf : l.stackTraces = false) (sa : Nat → Nat) (D : va_G) (cI cC cZ : ClassId) (h : Nat) (a b d z q : Nat → Nat) (Fp : xF) (Gp : xG) (Fo : xF) (Go : xG) (Fz : xF) (Gz : xG) (Fq : xF) (Gq : xG) (p1 p2 : Int32) (res : Int32 × Int32) (hf : fX5_hasAnew p1 p2 = some res) : yC l yX5_hasAnew wsX5_hasAnew rmX5_hasAnew exX5_hasAnew D sa [.ref h, .int p1, .int p2] (wX5 cI cC cZ h a b d z q Fp Gp Fo Go Fz Gz Fq Gq) (fun _ => (wX5 cI cC cZ h a b d z q Fp Gp Fo Go Fz Gz Fq Gq)) (xT cI cC cZ) (fun t => some (.int t.2)) res := by
  refine y_of (cc := cX5_hasAnew) (maxL := 3) (ret := (some .boolean)) (by decide) rfl (Nat.le_of_ble_eq_true rfl) ?_
  intro p e s m args below meth c A Q ls S I Z E hl
  replace hl : lv_has ls 3 [(0, .ref h), (1, .int p1), (2, .int p2)] := hl
  replace hf := (fX5_hasAnew_e _ _).symm.trans hf
  refine lv_iload_n S.1 S.2.1 dX5_hasAnew_0 rfl (lv_at hl 1 rfl) ?_
  refine lv_iload_n S.1 S.2.1 dX5_hasAnew_1 rfl (lv_at hl 2 rfl) ?_
  obtain ⟨r2, hg1, hf⟩ := x_b1E hf
  refine x_c0 (As := [.int p1, .int p2]) (rest := []) (st' := [.int r2]) S I rfl (tX1_isInRange l D cI cC cZ p1 p2 r2 hg1) (va_cwS 2 S.2.2.2.2 gX5_hasAnew_X1_isInRange rfl rfl rfl (by decide +kernel) ⟨Nat.le_of_ble_eq_true rfl, Nat.le_of_ble_eq_true rfl⟩) hl rfl (Nat.le_of_ble_eq_true rfl) ⟨Nat.zero_le _, Nat.zero_le _⟩ rfl dX5_hasAnew_2 (fun H locs I => ?_)
  refine lv_if_ne (tgt := 18) S.1 S.2.1 dX5_hasAnew_5 (by decide) (fun c3 => ?_) (fun c3 => ?_)
  · replace hf := x_ifF hf c3
    refine lv_iload_n S.1 S.2.1 dX5_hasAnew_18 rfl (lv_at hl 1 rfl) ?_
    refine lv_iload_n S.1 S.2.1 dX5_hasAnew_19 rfl (lv_at hl 2 rfl) ?_
    obtain ⟨r5, hg4, hf⟩ := x_b1E hf
    refine x_c0 (As := [.int p1, .int p2]) (rest := []) (st' := [.int r5]) S I rfl (tX1_isWonBySomePlan l D cI cC cZ p1 p2 r5 hg4) (va_cwS 2 S.2.2.2.2 gX5_hasAnew_X1_isWonBySomePlan rfl rfl rfl (by decide +kernel) ⟨Nat.le_of_ble_eq_true rfl, Nat.le_of_ble_eq_true rfl⟩) hl rfl (Nat.le_of_ble_eq_true rfl) ⟨Nat.zero_le _, Nat.zero_le _⟩ rfl dX5_hasAnew_20 (fun H locs I => ?_)
    exact y_ri S E rfl rfl hf rfl rfl I rfl dX5_hasAnew_23
  · replace hf := x_ifT hf c3
    exact y_throw (cls := yIAE) (text := "there is no such game") (ik := 34) (is := 227) (ic := 38) S E Z hlf hf (show (1 : Int32) ≠ 0 by decide) I rfl hl (by first | rfl | decide) (by decide) (by decide) (by decide +kernel) (by decide +kernel) rfl (by decide) (fun _ h => List.mem_cons_of_mem _ (List.mem_append_right _ h)) yNg_38 yGd_38 dX5_hasAnew_8 dX5_hasAnew_11 dX5_hasAnew_12 dX5_hasAnew_14 dX5_hasAnew_17 (Nat.le_of_ble_eq_true rfl) (Nat.le_of_ble_eq_true rfl) (Nat.le_refl _) (Nat.le_refl _)
