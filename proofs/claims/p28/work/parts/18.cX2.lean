set_option maxHeartbeats 4000000 in
set_option maxRecDepth 100000 in
theorem tX2_wipe (l : Launch) (D : va_G) (cI cC cZ : ClassId) (h : Nat) (a b : Nat → Nat) (F : xF) (G : xG) (Fo : xF) (Go : xG) (res : Int32 × xF × xF) (hf : fX2_wipe F Fo = some res) : xC l yX2_wipe wsX2_wipe rmX2_wipe D [.ref h] (wX2 cI cC cZ h a b F G Fo Go) (fun t => (wX2 cI cC cZ h a b t.2.1 G t.2.2 Go)) (xT cI cC cZ) (fun t => some (.int t.1)) res := by
  have kX2 : ∀ w ∈ u_ws RX2 TX2 6, w ∈ wsX2_wipe := by decide +kernel
  refine x_of (cc := cX2_wipe) (maxL := 2) (ret := (some .int)) (by decide) rfl (Nat.le_of_ble_eq_true rfl) ?_
  intro p e s m args below meth c A Q ls S I E hl
  replace hl : lv_has ls 2 [(0, .ref h)] := hl
  replace hf := (fX2_wipe_e _ _).symm.trans hf
  refine lv_aload_n S.1 S.2.1 dX2_wipe_0 rfl (lv_at hl 0 rfl) ?_
  refine x_get (C := RX2) (T := TX2) (N := 6) (ci := 1) (v := .int (F 2)) S kX2 rfl I 0 2 rfl (by decide) (by decide +kernel) rfl dX2_wipe_1 ?_
  refine lv_istore_n (lv' := [(1, .int (F 2)), (0, .ref h)]) S.1 S.2.1 dX2_wipe_4 rfl hl (by decide) rfl (fun ls hl => ?_)
  refine lv_aload_n S.1 S.2.1 dX2_wipe_5 rfl (lv_at hl 1 rfl) ?_
  refine lv_iconst (v := 0) S.1 S.2.1 dX2_wipe_6 (by decide) ?_
  refine x_put (C := RX2) (T := TX2) (N := 6) (ci := 1) (ws' := (wX2 cI cC cZ h a b (va_up F 2 0) G Fo Go)) S kX2 tyX2 tyX2_ok nmX2 rfl I 0 2 rfl (by decide) (by decide +kernel) rfl rfl (Nat.le_of_ble_eq_true rfl) rfl dX2_wipe_7 (fun H locs I => ?_)
  refine lv_aload_n S.1 S.2.1 dX2_wipe_10 rfl (lv_at hl 1 rfl) ?_
  refine lv_iconst (v := (-1)) S.1 S.2.1 dX2_wipe_11 (by decide) ?_
  refine x_put (C := RX2) (T := TX2) (N := 6) (ci := 1) (ws' := (wX2 cI cC cZ h a b (va_up (va_up F 2 0) 3 (-1)) G Fo Go)) S kX2 tyX2 tyX2_ok nmX2 rfl I 0 3 rfl (by decide) (by decide +kernel) rfl rfl (Nat.le_of_ble_eq_true rfl) rfl dX2_wipe_12 (fun H locs I => ?_)
  refine lv_aload_n S.1 S.2.1 dX2_wipe_15 rfl (lv_at hl 1 rfl) ?_
  refine lv_iconst (v := 0) S.1 S.2.1 dX2_wipe_16 (by decide) ?_
  refine x_put (C := RX2) (T := TX2) (N := 6) (ci := 1) (ws' := (wX2 cI cC cZ h a b (va_up (va_up (va_up F 2 0) 3 (-1)) 4 0) G Fo Go)) S kX2 tyX2 tyX2_ok nmX2 rfl I 0 4 rfl (by decide) (by decide +kernel) rfl rfl (Nat.le_of_ble_eq_true rfl) rfl dX2_wipe_17 (fun H locs I => ?_)
  refine lv_aload_n S.1 S.2.1 dX2_wipe_20 rfl (lv_at hl 1 rfl) ?_
  refine lv_iconst (v := (-1)) S.1 S.2.1 dX2_wipe_21 (by decide) ?_
  refine x_put (C := RX2) (T := TX2) (N := 6) (ci := 1) (ws' := (wX2 cI cC cZ h a b (va_up (va_up (va_up (va_up F 2 0) 3 (-1)) 4 0) 5 (-1)) G Fo Go)) S kX2 tyX2 tyX2_ok nmX2 rfl I 0 5 rfl (by decide) (by decide +kernel) rfl rfl (Nat.le_of_ble_eq_true rfl) rfl dX2_wipe_22 (fun H locs I => ?_)
  refine lv_aload_n S.1 S.2.1 dX2_wipe_25 rfl (lv_at hl 1 rfl) ?_
  refine x_get (C := RX2) (T := TX2) (N := 6) (ci := 1) (v := .ref (a 0)) S kX2 rfl I 0 0 rfl (by decide) (by decide +kernel) rfl dX2_wipe_26 ?_
  obtain ⟨F2, hg1, hf⟩ := x_b1E hf
  refine x_cV (As := []) (rest := []) (st' := []) (ws' := (wX2 cI cC cZ h a b (va_up (va_up (va_up (va_up F 2 0) 3 (-1)) 4 0) 5 (-1)) G F2 Go)) S I (tX0_clear l D cI cC cZ (a 0) b Fo Go F2 hg1) (cwV 0 S.2.2.2.2 gX2_wipe_X0_clear rfl rfl rfl (by decide +kernel) ⟨Nat.le_of_ble_eq_true rfl, Nat.le_of_ble_eq_true rfl⟩) 2 0 rfl rfl rfl [2, 3, 4, 5, 6, 7, 8, 9, 10, 11] [0, 1] [0, 1, 2, 3, 4, 5, 6, 7, 8, 9, 10, 11] rfl rfl rfl rfl (by decide) rfl rfl rfl hl rfl (Nat.le_of_ble_eq_true rfl) ⟨Nat.zero_le _, Nat.zero_le _⟩ rfl dX2_wipe_29 (fun H locs I => ?_)
  refine lv_iload_n S.1 S.2.1 dX2_wipe_32 rfl (lv_at hl 0 rfl) ?_
  exact x_ri E rfl rfl hf rfl I rfl dX2_wipe_33
set_option maxHeartbeats 4000000 in
set_option maxRecDepth 100000 in
theorem tX2_faultPlace (l : Launch) (D : va_G) (cI cC cZ : ClassId) (h : Nat) (a b : Nat → Nat) (F : xF) (G : xG) (Fo : xF) (Go : xG) (res : Int32) (hf : fX2_faultPlace F = some res) : xC l yX2_faultPlace wsX2_faultPlace rmX2_faultPlace D [.ref h] (wX2 cI cC cZ h a b F G Fo Go) (fun _ => (wX2 cI cC cZ h a b F G Fo Go)) (xT cI cC cZ) (fun t => some (.int t)) res := by
  have kX2 : ∀ w ∈ u_ws RX2 TX2 6, w ∈ wsX2_faultPlace := by decide +kernel
  refine x_of (cc := cX2_faultPlace) (maxL := 1) (ret := (some .int)) (by decide) rfl (Nat.le_of_ble_eq_true rfl) ?_
  intro p e s m args below meth c A Q ls S I E hl
  replace hl : lv_has ls 1 [(0, .ref h)] := hl
  replace hf := (fX2_faultPlace_e _).symm.trans hf
  refine lv_aload_n S.1 S.2.1 dX2_faultPlace_0 rfl (lv_at hl 0 rfl) ?_
  refine x_get (C := RX2) (T := TX2) (N := 6) (ci := 1) (v := .int (F 3)) S kX2 rfl I 0 3 rfl (by decide) (by decide +kernel) rfl dX2_faultPlace_1 ?_
  refine lv_iconst (v := (-1)) S.1 S.2.1 dX2_faultPlace_4 (by decide) ?_
  refine lv_icmp_ne (tgt := 15) S.1 S.2.1 dX2_faultPlace_5 (by decide) (fun c1 => ?_) (fun c1 => ?_)
  · replace hf := x_ifF hf c1
    refine lv_aload_n S.1 S.2.1 dX2_faultPlace_15 rfl (lv_at hl 0 rfl) ?_
    refine x_get (C := RX2) (T := TX2) (N := 6) (ci := 1) (v := .int (F 3)) S kX2 rfl I 0 3 rfl (by decide) (by decide +kernel) rfl dX2_faultPlace_16 ?_
    exact x_ri E rfl rfl hf rfl I rfl dX2_faultPlace_19
  · replace hf := x_ifT hf c1
    refine lv_aload_n S.1 S.2.1 dX2_faultPlace_8 rfl (lv_at hl 0 rfl) ?_
    refine x_get (C := RX2) (T := TX2) (N := 6) (ci := 1) (v := .int (F 2)) S kX2 rfl I 0 2 rfl (by decide) (by decide +kernel) rfl dX2_faultPlace_9 ?_
    refine lv_goto (tgt := 19) S.1 S.2.1 dX2_faultPlace_12 (by decide) ?_
    exact x_ri E rfl rfl hf rfl I rfl dX2_faultPlace_19
set_option maxHeartbeats 4000000 in
set_option maxRecDepth 100000 in
theorem tX2_isFormula (l : Launch) (D : va_G) (cI cC cZ : ClassId) (h : Nat) (a b : Nat → Nat) (F : xF) (G : xG) (Fo : xF) (Go : xG) (res : Int32) (hf : fX2_isFormula F = some res) : xC l yX2_isFormula wsX2_isFormula rmX2_isFormula D [.ref h] (wX2 cI cC cZ h a b F G Fo Go) (fun _ => (wX2 cI cC cZ h a b F G Fo Go)) (xT cI cC cZ) (fun t => some (.int t)) res := by
  have kX2 : ∀ w ∈ u_ws RX2 TX2 6, w ∈ wsX2_isFormula := by decide +kernel
  refine x_of (cc := cX2_isFormula) (maxL := 1) (ret := (some .boolean)) (by decide) rfl (Nat.le_of_ble_eq_true rfl) ?_
  intro p e s m args below meth c A Q ls S I E hl
  replace hl : lv_has ls 1 [(0, .ref h)] := hl
  replace hf := (fX2_isFormula_e _).symm.trans hf
  refine lv_aload_n S.1 S.2.1 dX2_isFormula_0 rfl (lv_at hl 0 rfl) ?_
  refine x_get (C := RX2) (T := TX2) (N := 6) (ci := 1) (v := .int (F 3)) S kX2 rfl I 0 3 rfl (by decide) (by decide +kernel) rfl dX2_isFormula_1 ?_
  refine lv_iconst (v := (-1)) S.1 S.2.1 dX2_isFormula_4 (by decide) ?_
  refine lv_icmp_ne (tgt := 21) S.1 S.2.1 dX2_isFormula_5 (by decide) (fun c1 => ?_) (fun c1 => ?_)
  · replace hf := x_ifF hf c1
    refine lv_iconst (v := 0) S.1 S.2.1 dX2_isFormula_21 (by decide) ?_
    exact x_ri E rfl x_n0 hf rfl I rfl dX2_isFormula_22
  · replace hf := x_ifT hf c1
    refine lv_aload_n S.1 S.2.1 dX2_isFormula_8 rfl (lv_at hl 0 rfl) ?_
    refine x_get (C := RX2) (T := TX2) (N := 6) (ci := 1) (v := .int (F 4)) S kX2 rfl I 0 4 rfl (by decide) (by decide +kernel) rfl dX2_isFormula_9 ?_
    refine lv_bipush (v := 7) S.1 S.2.1 dX2_isFormula_12 (by decide) ?_
    refine lv_icmp_ne (tgt := 21) S.1 S.2.1 dX2_isFormula_14 (by decide) (fun c2 => ?_) (fun c2 => ?_)
    · replace hf := x_ifF hf c2
      refine lv_iconst (v := 0) S.1 S.2.1 dX2_isFormula_21 (by decide) ?_
      exact x_ri E rfl x_n0 hf rfl I rfl dX2_isFormula_22
    · replace hf := x_ifT hf c2
      refine lv_iconst (v := 1) S.1 S.2.1 dX2_isFormula_17 (by decide) ?_
      refine lv_goto (tgt := 22) S.1 S.2.1 dX2_isFormula_18 (by decide) ?_
      exact x_ri E rfl x_n1 hf rfl I rfl dX2_isFormula_22
set_option maxHeartbeats 4000000 in
set_option maxRecDepth 100000 in
theorem tX2_isFull (l : Launch) (D : va_G) (cI cC cZ : ClassId) (h : Nat) (a b : Nat → Nat) (F : xF) (G : xG) (Fo : xF) (Go : xG) (res : Int32) (hf : fX2_isFull F = some res) : xC l yX2_isFull wsX2_isFull rmX2_isFull D [.ref h] (wX2 cI cC cZ h a b F G Fo Go) (fun _ => (wX2 cI cC cZ h a b F G Fo Go)) (xT cI cC cZ) (fun t => some (.int t)) res := by
  have kX2 : ∀ w ∈ u_ws RX2 TX2 6, w ∈ wsX2_isFull := by decide +kernel
  refine x_of (cc := cX2_isFull) (maxL := 1) (ret := (some .boolean)) (by decide) rfl (Nat.le_of_ble_eq_true rfl) ?_
  intro p e s m args below meth c A Q ls S I E hl
  replace hl : lv_has ls 1 [(0, .ref h)] := hl
  replace hf := (fX2_isFull_e _).symm.trans hf
  refine lv_aload_n S.1 S.2.1 dX2_isFull_0 rfl (lv_at hl 0 rfl) ?_
  refine x_get (C := RX2) (T := TX2) (N := 6) (ci := 1) (v := .int (F 2)) S kX2 rfl I 0 2 rfl (by decide) (by decide +kernel) rfl dX2_isFull_1 ?_
  refine lv_bipush (v := 40) S.1 S.2.1 dX2_isFull_4 (by decide) ?_
  refine lv_icmp_lt (tgt := 13) S.1 S.2.1 dX2_isFull_6 (by decide) (fun c1 => ?_) (fun c1 => ?_)
  · replace hf := x_ifT hf c1
    refine lv_iconst (v := 0) S.1 S.2.1 dX2_isFull_13 (by decide) ?_
    exact x_ri E rfl x_n0 hf rfl I rfl dX2_isFull_14
  · replace hf := x_ifF hf c1
    refine lv_iconst (v := 1) S.1 S.2.1 dX2_isFull_9 (by decide) ?_
    refine lv_goto (tgt := 14) S.1 S.2.1 dX2_isFull_10 (by decide) ?_
    exact x_ri E rfl x_n1 hf rfl I rfl dX2_isFull_14
set_option maxHeartbeats 4000000 in
set_option maxRecDepth 100000 in
theorem tX2_dueBehindStart (l : Launch) (D : va_G) (cI cC cZ : ClassId) (p1 : Int32) (res : Int32) (hf : fX2_dueBehindStart p1 = some res) : xC l yX2_dueBehindStart wsX2_dueBehindStart rmX2_dueBehindStart D [.int p1] [] (fun _ => []) (xT cI cC cZ) (fun t => some (.int t)) res := by
  refine x_of (cc := cX2_dueBehindStart) (maxL := 1) (ret := (some .int)) (by decide) rfl (Nat.le_of_ble_eq_true rfl) ?_
  intro p e s m args below meth c A Q ls S I E hl
  replace hl : lv_has ls 1 [(0, .int p1)] := hl
  replace hf := (fX2_dueBehindStart_e _).symm.trans hf
  refine lv_iload_n S.1 S.2.1 dX2_dueBehindStart_0 rfl (lv_at hl 0 rfl) ?_
  by_cases c1 : p1 = 33
  · replace hf := x_ifT hf c1
    refine lv_lookup (off := 85) (tgt := 86) S.1 S.2.1 dX2_dueBehindStart_1 (by decide) (by rw [c1]; rfl) (by decide) ?_
    refine lv_iconst (v := 0) S.1 S.2.1 dX2_dueBehindStart_86 (by decide) ?_
    exact x_ri E rfl rfl hf rfl I rfl dX2_dueBehindStart_87
  · replace hf := x_ifF hf c1
    by_cases c2 : p1 = 40
    · replace hf := x_ifT hf c2
      refine lv_lookup (off := 85) (tgt := 86) S.1 S.2.1 dX2_dueBehindStart_1 (by decide) ((lv_osw c1 (by decide)).trans (by rw [c2]; rfl)) (by decide) ?_
      refine lv_iconst (v := 0) S.1 S.2.1 dX2_dueBehindStart_86 (by decide) ?_
      exact x_ri E rfl rfl hf rfl I rfl dX2_dueBehindStart_87
    · replace hf := x_ifF hf c2
      by_cases c3 : p1 = 65
      · replace hf := x_ifT hf c3
        refine lv_lookup (off := 87) (tgt := 88) S.1 S.2.1 dX2_dueBehindStart_1 (by decide) ((lv_osw c1 (by decide)).trans ((lv_osw c2 (by decide)).trans (by rw [c3]; rfl))) (by decide) ?_
        refine lv_iconst (v := 3) S.1 S.2.1 dX2_dueBehindStart_88 (by decide) ?_
        exact x_ri E rfl rfl hf rfl I rfl dX2_dueBehindStart_89
      · replace hf := x_ifF hf c3
        by_cases c4 : p1 = 69
        · replace hf := x_ifT hf c4
          refine lv_lookup (off := 87) (tgt := 88) S.1 S.2.1 dX2_dueBehindStart_1 (by decide) ((lv_osw c1 (by decide)).trans ((lv_osw c2 (by decide)).trans ((lv_osw c3 (by decide)).trans (by rw [c4]; rfl)))) (by decide) ?_
          refine lv_iconst (v := 3) S.1 S.2.1 dX2_dueBehindStart_88 (by decide) ?_
          exact x_ri E rfl rfl hf rfl I rfl dX2_dueBehindStart_89
        · replace hf := x_ifF hf c4
          by_cases c5 : p1 = 97
          · replace hf := x_ifT hf c5
            refine lv_lookup (off := 87) (tgt := 88) S.1 S.2.1 dX2_dueBehindStart_1 (by decide) ((lv_osw c1 (by decide)).trans ((lv_osw c2 (by decide)).trans ((lv_osw c3 (by decide)).trans ((lv_osw c4 (by decide)).trans (by rw [c5]; rfl))))) (by decide) ?_
            refine lv_iconst (v := 3) S.1 S.2.1 dX2_dueBehindStart_88 (by decide) ?_
            exact x_ri E rfl rfl hf rfl I rfl dX2_dueBehindStart_89
          · replace hf := x_ifF hf c5
            by_cases c6 : p1 = 101
            · replace hf := x_ifT hf c6
              refine lv_lookup (off := 87) (tgt := 88) S.1 S.2.1 dX2_dueBehindStart_1 (by decide) ((lv_osw c1 (by decide)).trans ((lv_osw c2 (by decide)).trans ((lv_osw c3 (by decide)).trans ((lv_osw c4 (by decide)).trans ((lv_osw c5 (by decide)).trans (by rw [c6]; rfl)))))) (by decide) ?_
              refine lv_iconst (v := 3) S.1 S.2.1 dX2_dueBehindStart_88 (by decide) ?_
              exact x_ri E rfl rfl hf rfl I rfl dX2_dueBehindStart_89
            · replace hf := x_ifF hf c6
              by_cases c7 : p1 = 120
              · replace hf := x_ifT hf c7
                refine lv_lookup (off := 83) (tgt := 84) S.1 S.2.1 dX2_dueBehindStart_1 (by decide) ((lv_osw c1 (by decide)).trans ((lv_osw c2 (by decide)).trans ((lv_osw c3 (by decide)).trans ((lv_osw c4 (by decide)).trans ((lv_osw c5 (by decide)).trans ((lv_osw c6 (by decide)).trans (by rw [c7]; rfl))))))) (by decide) ?_
                refine lv_iconst (v := 1) S.1 S.2.1 dX2_dueBehindStart_84 (by decide) ?_
                exact x_ri E rfl rfl hf rfl I rfl dX2_dueBehindStart_85
              · replace hf := x_ifF hf c7
                by_cases c8 : p1 = 121
                · replace hf := x_ifT hf c8
                  refine lv_lookup (off := 83) (tgt := 84) S.1 S.2.1 dX2_dueBehindStart_1 (by decide) ((lv_osw c1 (by decide)).trans ((lv_osw c2 (by decide)).trans ((lv_osw c3 (by decide)).trans ((lv_osw c4 (by decide)).trans ((lv_osw c5 (by decide)).trans ((lv_osw c6 (by decide)).trans ((lv_osw c7 (by decide)).trans (by rw [c8]; rfl)))))))) (by decide) ?_
                  refine lv_iconst (v := 1) S.1 S.2.1 dX2_dueBehindStart_84 (by decide) ?_
                  exact x_ri E rfl rfl hf rfl I rfl dX2_dueBehindStart_85
                · replace hf := x_ifF hf c8
                  by_cases c9 : p1 = 122
                  · replace hf := x_ifT hf c9
                    refine lv_lookup (off := 83) (tgt := 84) S.1 S.2.1 dX2_dueBehindStart_1 (by decide) ((lv_osw c1 (by decide)).trans ((lv_osw c2 (by decide)).trans ((lv_osw c3 (by decide)).trans ((lv_osw c4 (by decide)).trans ((lv_osw c5 (by decide)).trans ((lv_osw c6 (by decide)).trans ((lv_osw c7 (by decide)).trans ((lv_osw c8 (by decide)).trans (by rw [c9]; rfl))))))))) (by decide) ?_
                    refine lv_iconst (v := 1) S.1 S.2.1 dX2_dueBehindStart_84 (by decide) ?_
                    exact x_ri E rfl rfl hf rfl I rfl dX2_dueBehindStart_85
                  · replace hf := x_ifF hf c9
                    refine lv_lookup (off := 89) (tgt := 90) S.1 S.2.1 dX2_dueBehindStart_1 (by decide) ((lv_osw c1 (by decide)).trans ((lv_osw c2 (by decide)).trans ((lv_osw c3 (by decide)).trans ((lv_osw c4 (by decide)).trans ((lv_osw c5 (by decide)).trans ((lv_osw c6 (by decide)).trans ((lv_osw c7 (by decide)).trans ((lv_osw c8 (by decide)).trans ((lv_osw c9 (by decide)).trans (rfl)))))))))) (by decide) ?_
                    refine lv_bipush (v := 7) S.1 S.2.1 dX2_dueBehindStart_90 (by decide) ?_
                    exact x_ri E rfl rfl hf rfl I rfl dX2_dueBehindStart_92
set_option maxHeartbeats 4000000 in
set_option maxRecDepth 100000 in
theorem tX2_isVariable (l : Launch) (D : va_G) (cI cC cZ : ClassId) (p1 : Int32) (res : Int32) (hf : fX2_isVariable p1 = some res) : xC l yX2_isVariable wsX2_isVariable rmX2_isVariable D [.int p1] [] (fun _ => []) (xT cI cC cZ) (fun t => some (.int t)) res := by
  refine x_of (cc := cX2_isVariable) (maxL := 1) (ret := (some .boolean)) (by decide) rfl (Nat.le_of_ble_eq_true rfl) ?_
  intro p e s m args below meth c A Q ls S I E hl
  replace hl : lv_has ls 1 [(0, .int p1)] := hl
  replace hf := (fX2_isVariable_e _).symm.trans hf
  refine lv_iload_n S.1 S.2.1 dX2_isVariable_0 rfl (lv_at hl 0 rfl) ?_
  refine lv_bipush (v := 120) S.1 S.2.1 dX2_isVariable_1 (by decide) ?_
  refine lv_icmp_lt (tgt := 16) S.1 S.2.1 dX2_isVariable_3 (by decide) (fun c1 => ?_) (fun c1 => ?_)
  · replace hf := x_ifT hf c1
    refine lv_iconst (v := 0) S.1 S.2.1 dX2_isVariable_16 (by decide) ?_
    exact x_ri E rfl x_n0 hf rfl I rfl dX2_isVariable_17
  · replace hf := x_ifF hf c1
    refine lv_iload_n S.1 S.2.1 dX2_isVariable_6 rfl (lv_at hl 0 rfl) ?_
    refine lv_bipush (v := 122) S.1 S.2.1 dX2_isVariable_7 (by decide) ?_
    refine lv_icmp_gt (tgt := 16) S.1 S.2.1 dX2_isVariable_9 (by decide) (fun c2 => ?_) (fun c2 => ?_)
    · replace hf := x_ifT hf c2
      refine lv_iconst (v := 0) S.1 S.2.1 dX2_isVariable_16 (by decide) ?_
      exact x_ri E rfl x_n0 hf rfl I rfl dX2_isVariable_17
    · replace hf := x_ifF hf c2
      refine lv_iconst (v := 1) S.1 S.2.1 dX2_isVariable_12 (by decide) ?_
      refine lv_goto (tgt := 17) S.1 S.2.1 dX2_isVariable_13 (by decide) ?_
      exact x_ri E rfl x_n1 hf rfl I rfl dX2_isVariable_17
set_option maxHeartbeats 4000000 in
set_option maxRecDepth 100000 in
theorem tX2_takesStart (l : Launch) (D : va_G) (cI cC cZ : ClassId) (h : Nat) (a b : Nat → Nat) (F : xF) (G : xG) (Fo : xF) (Go : xG) (p1 : Int32) (res : Int32 × xF × xG × xF × xG) (hf : fX2_takesStart F G Fo Go p1 = some res) : xC l yX2_takesStart wsX2_takesStart rmX2_takesStart D [.ref h, .int p1] (wX2 cI cC cZ h a b F G Fo Go) (fun t => (wX2 cI cC cZ h a b t.2.1 t.2.2.1 t.2.2.2.1 t.2.2.2.2)) (xT cI cC cZ) (fun t => some (.int t.1)) res := by
  have kX0 : ∀ w ∈ u_ws RX0 TX0 11, w ∈ wsX2_takesStart := by decide +kernel
  have kX2 : ∀ w ∈ u_ws RX2 TX2 6, w ∈ wsX2_takesStart := by decide +kernel
  refine x_of (cc := cX2_takesStart) (maxL := 4) (ret := (some .boolean)) (by decide) rfl (Nat.le_of_ble_eq_true rfl) ?_
  intro p e s m args below meth c A Q ls S I E hl
  replace hl : lv_has ls 4 [(0, .ref h), (1, .int p1)] := hl
  replace hf := (fX2_takesStart_e _ _ _ _ _).symm.trans hf
  refine lv_iload_n S.1 S.2.1 dX2_takesStart_0 rfl (lv_at hl 1 rfl) ?_
  obtain ⟨r2, hg1, hf⟩ := x_b1E hf
  refine x_c0 (As := [.int p1]) (rest := []) (st' := [.int r2]) S I rfl (tX2_dueBehindStart l D cI cC cZ p1 r2 hg1) (va_cwS 1 S.2.2.2.2 gX2_takesStart_X2_dueBehindStart rfl rfl rfl (by decide +kernel) ⟨Nat.le_of_ble_eq_true rfl, Nat.le_of_ble_eq_true rfl⟩) hl rfl (Nat.le_of_ble_eq_true rfl) ⟨Nat.zero_le _, Nat.zero_le _⟩ rfl dX2_takesStart_1 (fun H locs I => ?_)
  refine lv_istore_n (lv' := [(2, .int r2), (0, .ref h), (1, .int p1)]) S.1 S.2.1 dX2_takesStart_4 rfl hl (by decide) rfl (fun ls hl => ?_)
  refine lv_iload_n S.1 S.2.1 dX2_takesStart_5 rfl (lv_at hl 0 rfl) ?_
  refine lv_bipush (v := 7) S.1 S.2.1 dX2_takesStart_6 (by decide) ?_
  refine lv_icmp_ne (tgt := 13) S.1 S.2.1 dX2_takesStart_8 (by decide) (fun c3 => ?_) (fun c3 => ?_)
  · replace hf := x_ifF hf c3
    refine lv_aload_n S.1 S.2.1 dX2_takesStart_13 rfl (lv_at hl 1 rfl) ?_
    refine x_get (C := RX2) (T := TX2) (N := 6) (ci := 1) (v := .ref (a 0)) S kX2 rfl I 0 0 rfl (by decide) (by decide +kernel) rfl dX2_takesStart_14 ?_
    refine lv_iload_n S.1 S.2.1 dX2_takesStart_17 rfl (lv_at hl 2 rfl) ?_
    obtain ⟨r5, F6, G7, hg4, hf⟩ := x_b3E hf
    refine x_cV (As := [.int p1]) (rest := []) (st' := [.int r5]) (ws' := (wX2 cI cC cZ h a b F G F6 G7)) S I (tX0_add l D cI cC cZ (a 0) b Fo Go p1 (r5, F6, G7) hg4) (cwV 1 S.2.2.2.2 gX2_takesStart_X0_add rfl rfl rfl (by decide +kernel) ⟨Nat.le_of_ble_eq_true rfl, Nat.le_of_ble_eq_true rfl⟩) 2 0 rfl rfl rfl [2, 3, 4, 5, 6, 7, 8, 9, 10, 11] [0, 1] [0, 1, 2, 3, 4, 5, 6, 7, 8, 9, 10, 11] rfl rfl rfl rfl (by decide) rfl rfl rfl hl rfl (Nat.le_of_ble_eq_true rfl) ⟨Nat.zero_le _, Nat.zero_le _⟩ rfl dX2_takesStart_18 (fun H locs I => ?_)
    refine lv_istore_n (lv' := [(3, .int r5), (2, .int r2), (0, .ref h), (1, .int p1)]) S.1 S.2.1 dX2_takesStart_21 rfl hl (by decide) rfl (fun ls hl => ?_)
    refine lv_aload_n S.1 S.2.1 dX2_takesStart_22 rfl (lv_at hl 2 rfl) ?_
    refine x_get (C := RX2) (T := TX2) (N := 6) (ci := 1) (v := .ref (a 1)) S kX2 rfl I 0 1 rfl (by decide) (by decide +kernel) rfl dX2_takesStart_23 ?_
    refine lv_iload_n S.1 S.2.1 dX2_takesStart_26 rfl (lv_at hl 0 rfl) ?_
    refine lv_aload_n S.1 S.2.1 dX2_takesStart_27 rfl (lv_at hl 2 rfl) ?_
    refine x_get (C := RX2) (T := TX2) (N := 6) (ci := 1) (v := .int (F 5)) S kX2 rfl I 0 5 rfl (by decide) (by decide +kernel) rfl dX2_takesStart_28 ?_
    obtain ⟨hi8, hf⟩ := x_ldE hf
    refine x_iast (f := (G 1)) (ws' := (wX2 cI cC cZ h a b F (va_up G 1 (upd (G 1) r5.toNatClampNeg (F 5))) F6 G7)) S I 1 0 rfl rfl hi8 rfl dX2_takesStart_31 (fun H locs I => ?_)
    refine lv_aload_n S.1 S.2.1 dX2_takesStart_32 rfl (lv_at hl 2 rfl) ?_
    refine lv_iload_n S.1 S.2.1 dX2_takesStart_33 rfl (lv_at hl 0 rfl) ?_
    refine x_put (C := RX2) (T := TX2) (N := 6) (ci := 1) (ws' := (wX2 cI cC cZ h a b (va_up F 5 r5) (va_up G 1 (upd (G 1) r5.toNatClampNeg (F 5))) F6 G7)) S kX2 tyX2 tyX2_ok nmX2 rfl I 0 5 rfl (by decide) (by decide +kernel) rfl rfl (Nat.le_of_ble_eq_true rfl) rfl dX2_takesStart_34 (fun H locs I => ?_)
    refine lv_iload_n S.1 S.2.1 dX2_takesStart_37 rfl (lv_at hl 3 rfl) ?_
    obtain ⟨r10, hg9, hf⟩ := x_b1E hf
    refine x_c0 (As := [.int p1]) (rest := []) (st' := [.int r10]) S I rfl (tX2_isVariable l D cI cC cZ p1 r10 hg9) (va_cwS 1 S.2.2.2.2 gX2_takesStart_X2_isVariable rfl rfl rfl (by decide +kernel) ⟨Nat.le_of_ble_eq_true rfl, Nat.le_of_ble_eq_true rfl⟩) hl rfl (Nat.le_of_ble_eq_true rfl) ⟨Nat.zero_le _, Nat.zero_le _⟩ rfl dX2_takesStart_38 (fun H locs I => ?_)
    refine lv_if_eq (tgt := 57) S.1 S.2.1 dX2_takesStart_41 (by decide) (fun c11 => ?_) (fun c11 => ?_)
    · replace hf := x_ifT hf c11
      refine lv_aload_n S.1 S.2.1 dX2_takesStart_57 rfl (lv_at hl 2 rfl) ?_
      refine lv_iload_n S.1 S.2.1 dX2_takesStart_58 rfl (lv_at hl 1 rfl) ?_
      refine x_put (C := RX2) (T := TX2) (N := 6) (ci := 1) (ws' := (wX2 cI cC cZ h a b (va_up (va_up F 5 r5) 4 r2) (va_up G 1 (upd (G 1) r5.toNatClampNeg (F 5))) F6 G7)) S kX2 tyX2 tyX2_ok nmX2 rfl I 0 4 rfl (by decide) (by decide +kernel) rfl rfl (Nat.le_of_ble_eq_true rfl) rfl dX2_takesStart_59 (fun H locs I => ?_)
      refine lv_iconst (v := 1) S.1 S.2.1 dX2_takesStart_62 (by decide) ?_
      exact x_ri E rfl x_n1 hf rfl I rfl dX2_takesStart_63
    · replace hf := x_ifF hf c11
      refine lv_aload_n S.1 S.2.1 dX2_takesStart_44 rfl (lv_at hl 2 rfl) ?_
      refine x_get (C := RX2) (T := TX2) (N := 6) (ci := 1) (v := .ref (a 0)) S kX2 rfl I 0 0 rfl (by decide) (by decide +kernel) rfl dX2_takesStart_45 ?_
      refine x_getN (host := "ReversalCourt") (C := RX0) (T := TX0) (N := 11) (ci := 0) (v := .ref (b 1)) S kX0 rfl I 2 1 rfl (by decide) (by decide +kernel) rfl dX2_takesStart_48 ?_
      refine lv_iload_n S.1 S.2.1 dX2_takesStart_51 rfl (lv_at hl 0 rfl) ?_
      refine lv_iload_n S.1 S.2.1 dX2_takesStart_52 rfl (lv_at hl 3 rfl) ?_
      refine lv_bipush (v := 120) S.1 S.2.1 dX2_takesStart_53 (by decide) ?_
      refine lv_isub S.1 S.2.1 dX2_takesStart_55 ?_
      obtain ⟨hi12, hf⟩ := x_ldE hf
      refine x_iast (f := (G7 1)) (ws' := (wX2 cI cC cZ h a b (va_up F 5 r5) (va_up G 1 (upd (G 1) r5.toNatClampNeg (F 5))) F6 (va_up G7 1 (upd (G7 1) r5.toNatClampNeg (p1 - 120))))) S I 4 0 rfl rfl hi12 rfl dX2_takesStart_56 (fun H locs I => ?_)
      refine lv_aload_n S.1 S.2.1 dX2_takesStart_57 rfl (lv_at hl 2 rfl) ?_
      refine lv_iload_n S.1 S.2.1 dX2_takesStart_58 rfl (lv_at hl 1 rfl) ?_
      refine x_put (C := RX2) (T := TX2) (N := 6) (ci := 1) (ws' := (wX2 cI cC cZ h a b (va_up (va_up F 5 r5) 4 r2) (va_up G 1 (upd (G 1) r5.toNatClampNeg (F 5))) F6 (va_up G7 1 (upd (G7 1) r5.toNatClampNeg (p1 - 120))))) S kX2 tyX2 tyX2_ok nmX2 rfl I 0 4 rfl (by decide) (by decide +kernel) rfl rfl (Nat.le_of_ble_eq_true rfl) rfl dX2_takesStart_59 (fun H locs I => ?_)
      refine lv_iconst (v := 1) S.1 S.2.1 dX2_takesStart_62 (by decide) ?_
      exact x_ri E rfl x_n1 hf rfl I rfl dX2_takesStart_63
  · replace hf := x_ifT hf c3
    refine lv_iconst (v := 0) S.1 S.2.1 dX2_takesStart_11 (by decide) ?_
    exact x_ri E rfl x_n0 hf rfl I rfl dX2_takesStart_12
set_option maxHeartbeats 4000000 in
set_option maxRecDepth 100000 in
theorem tX2_takesKind (l : Launch) (D : va_G) (cI cC cZ : ClassId) (h : Nat) (a b : Nat → Nat) (F : xF) (G : xG) (Fo : xF) (Go : xG) (p1 p2 p3 : Int32) (res : Int32 × xF × xG) (hf : fX2_takesKind F Go p1 p2 p3 = some res) : xC l yX2_takesKind wsX2_takesKind rmX2_takesKind D [.ref h, .int p1, .int p2, .int p3] (wX2 cI cC cZ h a b F G Fo Go) (fun t => (wX2 cI cC cZ h a b t.2.1 G Fo t.2.2)) (xT cI cC cZ) (fun t => some (.int t.1)) res := by
  have kX0 : ∀ w ∈ u_ws RX0 TX0 11, w ∈ wsX2_takesKind := by decide +kernel
  have kX2 : ∀ w ∈ u_ws RX2 TX2 6, w ∈ wsX2_takesKind := by decide +kernel
  refine x_of (cc := cX2_takesKind) (maxL := 4) (ret := (some .boolean)) (by decide) rfl (Nat.le_of_ble_eq_true rfl) ?_
  intro p e s m args below meth c A Q ls S I E hl
  replace hl : lv_has ls 4 [(0, .ref h), (1, .int p1), (2, .int p2), (3, .int p3)] := hl
  replace hf := (fX2_takesKind_e _ _ _ _ _).symm.trans hf
  refine lv_iload_n S.1 S.2.1 dX2_takesKind_0 rfl (lv_at hl 1 rfl) ?_
  refine lv_if_eq (tgt := 22) S.1 S.2.1 dX2_takesKind_1 (by decide) (fun c1 => ?_) (fun c1 => ?_)
  · replace hf := x_ifT hf c1
    refine lv_iload_n S.1 S.2.1 dX2_takesKind_22 rfl (lv_at hl 1 rfl) ?_
    exact x_ri E rfl rfl hf rfl I rfl dX2_takesKind_23
  · replace hf := x_ifF hf c1
    refine lv_aload_n S.1 S.2.1 dX2_takesKind_4 rfl (lv_at hl 0 rfl) ?_
    refine x_get (C := RX2) (T := TX2) (N := 6) (ci := 1) (v := .ref (a 0)) S kX2 rfl I 0 0 rfl (by decide) (by decide +kernel) rfl dX2_takesKind_5 ?_
    refine x_getN (host := "ReversalCourt") (C := RX0) (T := TX0) (N := 11) (ci := 0) (v := .ref (b 0)) S kX0 rfl I 2 0 rfl (by decide) (by decide +kernel) rfl dX2_takesKind_8 ?_
    refine lv_aload_n S.1 S.2.1 dX2_takesKind_11 rfl (lv_at hl 0 rfl) ?_
    refine x_get (C := RX2) (T := TX2) (N := 6) (ci := 1) (v := .int (F 5)) S kX2 rfl I 0 5 rfl (by decide) (by decide +kernel) rfl dX2_takesKind_12 ?_
    refine lv_iload_n S.1 S.2.1 dX2_takesKind_15 rfl (lv_at hl 2 rfl) ?_
    obtain ⟨hi2, hf⟩ := x_ldE hf
    refine x_cast (f := (Go 0)) (ws' := (wX2 cI cC cZ h a b F G Fo (va_up Go 0 (upd (Go 0) (F 5).toNatClampNeg (x_cn p2))))) S I 3 1 rfl rfl hi2 rfl dX2_takesKind_16 (fun H locs I => ?_)
    refine lv_aload_n S.1 S.2.1 dX2_takesKind_17 rfl (lv_at hl 0 rfl) ?_
    refine lv_iload_n S.1 S.2.1 dX2_takesKind_18 rfl (lv_at hl 3 rfl) ?_
    refine x_put (C := RX2) (T := TX2) (N := 6) (ci := 1) (ws' := (wX2 cI cC cZ h a b (va_up F 4 p3) G Fo (va_up Go 0 (upd (Go 0) (F 5).toNatClampNeg (x_cn p2))))) S kX2 tyX2 tyX2_ok nmX2 rfl I 0 4 rfl (by decide) (by decide +kernel) rfl rfl (Nat.le_of_ble_eq_true rfl) rfl dX2_takesKind_19 (fun H locs I => ?_)
    refine lv_iload_n S.1 S.2.1 dX2_takesKind_22 rfl (lv_at hl 1 rfl) ?_
    exact x_ri E rfl rfl hf rfl I rfl dX2_takesKind_23
set_option maxHeartbeats 4000000 in
set_option maxRecDepth 100000 in
theorem tX2_takesLimit (l : Launch) (D : va_G) (cI cC cZ : ClassId) (h : Nat) (a b : Nat → Nat) (F : xF) (G : xG) (Fo : xF) (Go : xG) (p1 p2 : Int32) (res : Int32 × xF × xG) (hf : fX2_takesLimit F Go p1 p2 = some res) : xC l yX2_takesLimit wsX2_takesLimit rmX2_takesLimit D [.ref h, .int p1, .int p2] (wX2 cI cC cZ h a b F G Fo Go) (fun t => (wX2 cI cC cZ h a b t.2.1 G Fo t.2.2)) (xT cI cC cZ) (fun t => some (.int t.1)) res := by
  have kX0 : ∀ w ∈ u_ws RX0 TX0 11, w ∈ wsX2_takesLimit := by decide +kernel
  have kX2 : ∀ w ∈ u_ws RX2 TX2 6, w ∈ wsX2_takesLimit := by decide +kernel
  refine x_of (cc := cX2_takesLimit) (maxL := 3) (ret := (some .boolean)) (by decide) rfl (Nat.le_of_ble_eq_true rfl) ?_
  intro p e s m args below meth c A Q ls S I E hl
  replace hl : lv_has ls 3 [(0, .ref h), (1, .int p1), (2, .int p2)] := hl
  replace hf := (fX2_takesLimit_e _ _ _ _).symm.trans hf
  refine lv_iload_n S.1 S.2.1 dX2_takesLimit_0 rfl (lv_at hl 1 rfl) ?_
  obtain ⟨r2, hg1, hf⟩ := x_b1E hf
  refine x_c0 (As := [.int p1]) (rest := []) (st' := [.int r2]) S I rfl (tX2_isVariable l D cI cC cZ p1 r2 hg1) (va_cwS 1 S.2.2.2.2 gX2_takesLimit_X2_isVariable rfl rfl rfl (by decide +kernel) ⟨Nat.le_of_ble_eq_true rfl, Nat.le_of_ble_eq_true rfl⟩) hl rfl (Nat.le_of_ble_eq_true rfl) ⟨Nat.zero_le _, Nat.zero_le _⟩ rfl dX2_takesLimit_1 (fun H locs I => ?_)
  refine lv_if_ne (tgt := 9) S.1 S.2.1 dX2_takesLimit_4 (by decide) (fun c3 => ?_) (fun c3 => ?_)
  · replace hf := x_ifF hf c3
    refine lv_aload_n S.1 S.2.1 dX2_takesLimit_9 rfl (lv_at hl 0 rfl) ?_
    refine x_get (C := RX2) (T := TX2) (N := 6) (ci := 1) (v := .ref (a 0)) S kX2 rfl I 0 0 rfl (by decide) (by decide +kernel) rfl dX2_takesLimit_10 ?_
    refine x_getN (host := "ReversalCourt") (C := RX0) (T := TX0) (N := 11) (ci := 0) (v := .ref (b 2)) S kX0 rfl I 2 2 rfl (by decide) (by decide +kernel) rfl dX2_takesLimit_13 ?_
    refine lv_aload_n S.1 S.2.1 dX2_takesLimit_16 rfl (lv_at hl 0 rfl) ?_
    refine x_get (C := RX2) (T := TX2) (N := 6) (ci := 1) (v := .int (F 5)) S kX2 rfl I 0 5 rfl (by decide) (by decide +kernel) rfl dX2_takesLimit_17 ?_
    refine lv_iload_n S.1 S.2.1 dX2_takesLimit_20 rfl (lv_at hl 1 rfl) ?_
    refine lv_bipush (v := 120) S.1 S.2.1 dX2_takesLimit_21 (by decide) ?_
    refine lv_isub S.1 S.2.1 dX2_takesLimit_23 ?_
    obtain ⟨hi4, hf⟩ := x_ldE hf
    refine x_iast (f := (Go 2)) (ws' := (wX2 cI cC cZ h a b F G Fo (va_up Go 2 (upd (Go 2) (F 5).toNatClampNeg (p1 - 120))))) S I 5 0 rfl rfl hi4 rfl dX2_takesLimit_24 (fun H locs I => ?_)
    refine lv_aload_n S.1 S.2.1 dX2_takesLimit_25 rfl (lv_at hl 0 rfl) ?_
    refine lv_iload_n S.1 S.2.1 dX2_takesLimit_26 rfl (lv_at hl 2 rfl) ?_
    refine x_put (C := RX2) (T := TX2) (N := 6) (ci := 1) (ws' := (wX2 cI cC cZ h a b (va_up F 4 p2) G Fo (va_up Go 2 (upd (Go 2) (F 5).toNatClampNeg (p1 - 120))))) S kX2 tyX2 tyX2_ok nmX2 rfl I 0 4 rfl (by decide) (by decide +kernel) rfl rfl (Nat.le_of_ble_eq_true rfl) rfl dX2_takesLimit_27 (fun H locs I => ?_)
    refine lv_iconst (v := 1) S.1 S.2.1 dX2_takesLimit_30 (by decide) ?_
    exact x_ri E rfl x_n1 hf rfl I rfl dX2_takesLimit_31
  · replace hf := x_ifT hf c3
    refine lv_iconst (v := 0) S.1 S.2.1 dX2_takesLimit_7 (by decide) ?_
    exact x_ri E rfl x_n0 hf rfl I rfl dX2_takesLimit_8
set_option maxHeartbeats 4000000 in
set_option maxRecDepth 100000 in
theorem tX2_takesVariable (l : Launch) (D : va_G) (cI cC cZ : ClassId) (h : Nat) (a b : Nat → Nat) (F : xF) (G : xG) (Fo : xF) (Go : xG) (p1 : Int32) (res : Int32 × xF × xG) (hf : fX2_takesVariable F Go p1 = some res) : xC l yX2_takesVariable wsX2_takesVariable rmX2_takesVariable D [.ref h, .int p1] (wX2 cI cC cZ h a b F G Fo Go) (fun t => (wX2 cI cC cZ h a b t.2.1 G Fo t.2.2)) (xT cI cC cZ) (fun t => some (.int t.1)) res := by
  have kX0 : ∀ w ∈ u_ws RX0 TX0 11, w ∈ wsX2_takesVariable := by decide +kernel
  have kX2 : ∀ w ∈ u_ws RX2 TX2 6, w ∈ wsX2_takesVariable := by decide +kernel
  refine x_of (cc := cX2_takesVariable) (maxL := 2) (ret := (some .boolean)) (by decide) rfl (Nat.le_of_ble_eq_true rfl) ?_
  intro p e s m args below meth c A Q ls S I E hl
  replace hl : lv_has ls 2 [(0, .ref h), (1, .int p1)] := hl
  replace hf := (fX2_takesVariable_e _ _ _).symm.trans hf
  refine lv_iload_n S.1 S.2.1 dX2_takesVariable_0 rfl (lv_at hl 1 rfl) ?_
  obtain ⟨r2, hg1, hf⟩ := x_b1E hf
  refine x_c0 (As := [.int p1]) (rest := []) (st' := [.int r2]) S I rfl (tX2_isVariable l D cI cC cZ p1 r2 hg1) (va_cwS 1 S.2.2.2.2 gX2_takesVariable_X2_isVariable rfl rfl rfl (by decide +kernel) ⟨Nat.le_of_ble_eq_true rfl, Nat.le_of_ble_eq_true rfl⟩) hl rfl (Nat.le_of_ble_eq_true rfl) ⟨Nat.zero_le _, Nat.zero_le _⟩ rfl dX2_takesVariable_1 (fun H locs I => ?_)
  refine lv_if_ne (tgt := 9) S.1 S.2.1 dX2_takesVariable_4 (by decide) (fun c3 => ?_) (fun c3 => ?_)
  · replace hf := x_ifF hf c3
    refine lv_aload_n S.1 S.2.1 dX2_takesVariable_9 rfl (lv_at hl 0 rfl) ?_
    refine x_get (C := RX2) (T := TX2) (N := 6) (ci := 1) (v := .ref (a 0)) S kX2 rfl I 0 0 rfl (by decide) (by decide +kernel) rfl dX2_takesVariable_10 ?_
    refine x_getN (host := "ReversalCourt") (C := RX0) (T := TX0) (N := 11) (ci := 0) (v := .ref (b 1)) S kX0 rfl I 2 1 rfl (by decide) (by decide +kernel) rfl dX2_takesVariable_13 ?_
    refine lv_aload_n S.1 S.2.1 dX2_takesVariable_16 rfl (lv_at hl 0 rfl) ?_
    refine x_get (C := RX2) (T := TX2) (N := 6) (ci := 1) (v := .int (F 5)) S kX2 rfl I 0 5 rfl (by decide) (by decide +kernel) rfl dX2_takesVariable_17 ?_
    refine lv_iload_n S.1 S.2.1 dX2_takesVariable_20 rfl (lv_at hl 1 rfl) ?_
    refine lv_bipush (v := 120) S.1 S.2.1 dX2_takesVariable_21 (by decide) ?_
    refine lv_isub S.1 S.2.1 dX2_takesVariable_23 ?_
    obtain ⟨hi4, hf⟩ := x_ldE hf
    refine x_iast (f := (Go 1)) (ws' := (wX2 cI cC cZ h a b F G Fo (va_up Go 1 (upd (Go 1) (F 5).toNatClampNeg (p1 - 120))))) S I 4 0 rfl rfl hi4 rfl dX2_takesVariable_24 (fun H locs I => ?_)
    refine lv_aload_n S.1 S.2.1 dX2_takesVariable_25 rfl (lv_at hl 0 rfl) ?_
    refine lv_aload_n S.1 S.2.1 dX2_takesVariable_26 rfl (lv_at hl 0 rfl) ?_
    refine x_get (C := RX2) (T := TX2) (N := 6) (ci := 1) (v := .ref (a 0)) S kX2 rfl I 0 0 rfl (by decide) (by decide +kernel) rfl dX2_takesVariable_27 ?_
    refine x_getN (host := "ReversalCourt") (C := RX0) (T := TX0) (N := 11) (ci := 0) (v := .ref (b 0)) S kX0 rfl I 2 0 rfl (by decide) (by decide +kernel) rfl dX2_takesVariable_30 ?_
    refine lv_aload_n S.1 S.2.1 dX2_takesVariable_33 rfl (lv_at hl 0 rfl) ?_
    refine x_get (C := RX2) (T := TX2) (N := 6) (ci := 1) (v := .int (F 5)) S kX2 rfl I 0 5 rfl (by decide) (by decide +kernel) rfl dX2_takesVariable_34 ?_
    obtain ⟨hi5, hf⟩ := x_ldE hf
    refine x_cald (f := (Go 0)) S I 3 1 rfl rfl hi5 dX2_takesVariable_37 ?_
    obtain ⟨r7, hg6, hf⟩ := x_b1E hf
    refine x_c0 (As := [.int ((Go 0) (F 5).toNatClampNeg)]) (rest := [.ref h]) (st' := [.int r7, .ref h]) S I rfl (tX0_isBounded l D cI cC cZ ((Go 0) (F 5).toNatClampNeg) r7 hg6) (va_cwS 1 S.2.2.2.2 gX2_takesVariable_X0_isBounded rfl rfl rfl (by decide +kernel) ⟨Nat.le_of_ble_eq_true rfl, Nat.le_of_ble_eq_true rfl⟩) hl rfl (Nat.le_of_ble_eq_true rfl) ⟨Nat.zero_le _, Nat.zero_le _⟩ rfl dX2_takesVariable_38 (fun H locs I => ?_)
    refine lv_if_eq (tgt := 48) S.1 S.2.1 dX2_takesVariable_41 (by decide) (fun c8 => ?_) (fun c8 => ?_)
    · replace hf := x_ifT hf c8
      refine lv_iconst (v := 0) S.1 S.2.1 dX2_takesVariable_48 (by decide) ?_
      refine x_put (C := RX2) (T := TX2) (N := 6) (ci := 1) (ws' := (wX2 cI cC cZ h a b (va_up F 4 0) G Fo (va_up Go 1 (upd (Go 1) (F 5).toNatClampNeg (p1 - 120))))) S kX2 tyX2 tyX2_ok nmX2 rfl I 0 4 rfl (by decide) (by decide +kernel) rfl rfl (Nat.le_of_ble_eq_true rfl) rfl dX2_takesVariable_49 (fun H locs I => ?_)
      refine lv_iconst (v := 1) S.1 S.2.1 dX2_takesVariable_52 (by decide) ?_
      exact x_ri E rfl x_n1 hf rfl I rfl dX2_takesVariable_53
    · replace hf := x_ifF hf c8
      refine lv_iconst (v := 4) S.1 S.2.1 dX2_takesVariable_44 (by decide) ?_
      refine lv_goto (tgt := 49) S.1 S.2.1 dX2_takesVariable_45 (by decide) ?_
      refine x_put (C := RX2) (T := TX2) (N := 6) (ci := 1) (ws' := (wX2 cI cC cZ h a b (va_up F 4 4) G Fo (va_up Go 1 (upd (Go 1) (F 5).toNatClampNeg (p1 - 120))))) S kX2 tyX2 tyX2_ok nmX2 rfl I 0 4 rfl (by decide) (by decide +kernel) rfl rfl (Nat.le_of_ble_eq_true rfl) rfl dX2_takesVariable_49 (fun H locs I => ?_)
      refine lv_iconst (v := 1) S.1 S.2.1 dX2_takesVariable_52 (by decide) ?_
      exact x_ri E rfl x_n1 hf rfl I rfl dX2_takesVariable_53
  · replace hf := x_ifT hf c3
    refine lv_iconst (v := 0) S.1 S.2.1 dX2_takesVariable_7 (by decide) ?_
    exact x_ri E rfl x_n0 hf rfl I rfl dX2_takesVariable_8
set_option maxHeartbeats 4000000 in
set_option maxRecDepth 100000 in
theorem tX2_takesClose (l : Launch) (D : va_G) (cI cC cZ : ClassId) (h : Nat) (a b : Nat → Nat) (F : xF) (G : xG) (Fo : xF) (Go : xG) (p1 : Int32) (res : Int32 × xF) (hf : fX2_takesClose F p1 = some res) : xC l yX2_takesClose wsX2_takesClose rmX2_takesClose D [.ref h, .int p1] (wX2 cI cC cZ h a b F G Fo Go) (fun t => (wX2 cI cC cZ h a b t.2 G Fo Go)) (xT cI cC cZ) (fun t => some (.int t.1)) res := by
  have kX2 : ∀ w ∈ u_ws RX2 TX2 6, w ∈ wsX2_takesClose := by decide +kernel
  refine x_of (cc := cX2_takesClose) (maxL := 2) (ret := (some .boolean)) (by decide) rfl (Nat.le_of_ble_eq_true rfl) ?_
  intro p e s m args below meth c A Q ls S I E hl
  replace hl : lv_has ls 2 [(0, .ref h), (1, .int p1)] := hl
  replace hf := (fX2_takesClose_e _ _).symm.trans hf
  refine lv_iload_n S.1 S.2.1 dX2_takesClose_0 rfl (lv_at hl 1 rfl) ?_
  refine lv_bipush (v := 41) S.1 S.2.1 dX2_takesClose_1 (by decide) ?_
  refine lv_icmp_eq (tgt := 8) S.1 S.2.1 dX2_takesClose_3 (by decide) (fun c1 => ?_) (fun c1 => ?_)
  · replace hf := x_ifT hf c1
    refine lv_aload_n S.1 S.2.1 dX2_takesClose_8 rfl (lv_at hl 0 rfl) ?_
    refine lv_bipush (v := 7) S.1 S.2.1 dX2_takesClose_9 (by decide) ?_
    refine x_put (C := RX2) (T := TX2) (N := 6) (ci := 1) (ws' := (wX2 cI cC cZ h a b (va_up F 4 7) G Fo Go)) S kX2 tyX2 tyX2_ok nmX2 rfl I 0 4 rfl (by decide) (by decide +kernel) rfl rfl (Nat.le_of_ble_eq_true rfl) rfl dX2_takesClose_11 (fun H locs I => ?_)
    refine lv_iconst (v := 1) S.1 S.2.1 dX2_takesClose_14 (by decide) ?_
    exact x_ri E rfl x_n1 hf rfl I rfl dX2_takesClose_15
  · replace hf := x_ifF hf c1
    refine lv_iconst (v := 0) S.1 S.2.1 dX2_takesClose_6 (by decide) ?_
    exact x_ri E rfl x_n0 hf rfl I rfl dX2_takesClose_7
set_option maxHeartbeats 4000000 in
set_option maxRecDepth 100000 in
theorem tX2_takes (l : Launch) (D : va_G) (cI cC cZ : ClassId) (h : Nat) (a b : Nat → Nat) (F : xF) (G : xG) (Fo : xF) (Go : xG) (p1 : Int32) (res : Int32 × xF × xG × xF × xG) (hf : fX2_takes F G Fo Go p1 = some res) : xC l yX2_takes wsX2_takes rmX2_takes D [.ref h, .int p1] (wX2 cI cC cZ h a b F G Fo Go) (fun t => (wX2 cI cC cZ h a b t.2.1 t.2.2.1 t.2.2.2.1 t.2.2.2.2)) (xT cI cC cZ) (fun t => some (.int t.1)) res := by
  have kX2 : ∀ w ∈ u_ws RX2 TX2 6, w ∈ wsX2_takes := by decide +kernel
  refine x_of (cc := cX2_takes) (maxL := 2) (ret := (some .boolean)) (by decide) rfl (Nat.le_of_ble_eq_true rfl) ?_
  intro p e s m args below meth c A Q ls S I E hl
  replace hl : lv_has ls 2 [(0, .ref h), (1, .int p1)] := hl
  replace hf := (fX2_takes_e _ _ _ _ _).symm.trans hf
  refine lv_aload_n S.1 S.2.1 dX2_takes_0 rfl (lv_at hl 0 rfl) ?_
  refine x_get (C := RX2) (T := TX2) (N := 6) (ci := 1) (v := .int (F 4)) S kX2 rfl I 0 4 rfl (by decide) (by decide +kernel) rfl dX2_takes_1 ?_
  by_cases c1 : (F 4) = 0
  · replace hf := x_ifT hf c1
    refine lv_tableIn (off := 44) (tgt := 48) S.1 S.2.1 dX2_takes_4 (by rw [c1]; decide) (by rw [c1]; decide) (by rw [c1]; rfl) (by decide) ?_
    refine lv_aload_n S.1 S.2.1 dX2_takes_48 rfl (lv_at hl 0 rfl) ?_
    refine lv_iload_n S.1 S.2.1 dX2_takes_49 rfl (lv_at hl 1 rfl) ?_
    obtain ⟨r3, F4, G5, F6, G7, hg2, hf⟩ := x_b5E hf
    refine x_cA (As := [.int p1]) (rest := []) (st' := [.int r3]) (ws' := (wX2 cI cC cZ h a b F4 G5 F6 G7)) S I (tX2_takesStart l D cI cC cZ h a b F G Fo Go p1 (r3, F4, G5, F6, G7) hg2) (cwV 1 S.2.2.2.2 gX2_takes_X2_takesStart rfl rfl rfl (by decide +kernel) ⟨Nat.le_of_ble_eq_true rfl, Nat.le_of_ble_eq_true rfl⟩) 0 1 rfl rfl rfl rfl hl rfl (Nat.le_of_ble_eq_true rfl) ⟨Nat.zero_le _, Nat.zero_le _⟩ rfl dX2_takes_50 (fun H locs I => ?_)
    exact x_ri E rfl rfl hf rfl I rfl dX2_takes_53
  · replace hf := x_ifF hf c1
    by_cases c8 : (F 4) = 1
    · replace hf := x_ifT hf c8
      refine lv_tableIn (off := 50) (tgt := 54) S.1 S.2.1 dX2_takes_4 (by rw [c8]; decide) (by rw [c8]; decide) (by rw [c8]; rfl) (by decide) ?_
      refine lv_aload_n S.1 S.2.1 dX2_takes_54 rfl (lv_at hl 0 rfl) ?_
      refine lv_iload_n S.1 S.2.1 dX2_takes_55 rfl (lv_at hl 1 rfl) ?_
      refine lv_bipush (v := 60) S.1 S.2.1 dX2_takes_56 (by decide) ?_
      have hj72 : ∀ (v9 : Int32) (H : Heap) (locs : List Loc) (ls : Array Slot), (fX2_takes_j72 F Go G Fo p1) v9 = some res → xI D A s (wX2 cI cC cZ h a b F G Fo Go) (xT cI cC cZ) H locs → lv_has ls 2 [(1, .int p1)] → W p l e (headSpec wsX2_takes rmX2_takes).room s m args below meth c H locs 0 0 Q (F0 m 72 ls [.int v9, .ref h]) := by
        intro v9 H locs ls hf I hl
        replace hf := (fX2_takes_j72_e _ _ _ _ _ _).symm.trans hf
        refine lv_iload_n S.1 S.2.1 dX2_takes_72 rfl (lv_at hl 0 rfl) ?_
        refine lv_iconst (v := 2) S.1 S.2.1 dX2_takes_73 (by decide) ?_
        obtain ⟨r11, F12, G13, hg10, hf⟩ := x_b3E hf
        refine x_cA (As := [.int v9, .int p1, .int 2]) (rest := []) (st' := [.int r11]) (ws' := (wX2 cI cC cZ h a b F12 G Fo G13)) S I (tX2_takesKind l D cI cC cZ h a b F G Fo Go v9 p1 2 (r11, F12, G13) hg10) (cwV 3 S.2.2.2.2 gX2_takes_X2_takesKind rfl rfl rfl (by decide +kernel) ⟨Nat.le_of_ble_eq_true rfl, Nat.le_of_ble_eq_true rfl⟩) 0 1 rfl rfl rfl rfl hl rfl (Nat.le_of_ble_eq_true rfl) ⟨Nat.zero_le _, Nat.zero_le _⟩ rfl dX2_takes_74 (fun H locs I => ?_)
        exact x_ri E rfl rfl hf rfl I rfl dX2_takes_77
      have hj67 : ∀  (H : Heap) (locs : List Loc) (ls : Array Slot), (fX2_takes_j67 F Go G Fo p1) = some res → xI D A s (wX2 cI cC cZ h a b F G Fo Go) (xT cI cC cZ) H locs → lv_has ls 2 [(1, .int p1)] → W p l e (headSpec wsX2_takes rmX2_takes).room s m args below meth c H locs 0 0 Q (F0 m 67 ls [.ref h]) := by
        intro  H locs ls hf I hl
        replace hf := (fX2_takes_j67_e _ _ _ _ _).symm.trans hf
        refine lv_iconst (v := 1) S.1 S.2.1 dX2_takes_67 (by decide) ?_
        refine lv_goto (tgt := 72) S.1 S.2.1 dX2_takes_68 (by decide) ?_
        exact hj72 1 _ _ _ hf I (lv_sub hl [0] rfl)
      refine lv_icmp_eq (tgt := 67) S.1 S.2.1 dX2_takes_58 (by decide) (fun c14 => ?_) (fun c14 => ?_)
      · replace hf := x_ifT hf c14
        exact hj67 _ _ _ hf I (lv_sub hl [1] rfl)
      · replace hf := x_ifF hf c14
        refine lv_iload_n S.1 S.2.1 dX2_takes_61 rfl (lv_at hl 1 rfl) ?_
        refine lv_bipush (v := 61) S.1 S.2.1 dX2_takes_62 (by decide) ?_
        refine lv_icmp_ne (tgt := 71) S.1 S.2.1 dX2_takes_64 (by decide) (fun c15 => ?_) (fun c15 => ?_)
        · replace hf := x_ifF hf c15
          refine lv_iconst (v := 0) S.1 S.2.1 dX2_takes_71 (by decide) ?_
          exact hj72 0 _ _ _ hf I (lv_sub hl [1] rfl)
        · replace hf := x_ifT hf c15
          exact hj67 _ _ _ hf I (lv_sub hl [1] rfl)
    · replace hf := x_ifF hf c8
      by_cases c16 : (F 4) = 2
      · replace hf := x_ifT hf c16
        refine lv_tableIn (off := 74) (tgt := 78) S.1 S.2.1 dX2_takes_4 (by rw [c16]; decide) (by rw [c16]; decide) (by rw [c16]; rfl) (by decide) ?_
        refine lv_aload_n S.1 S.2.1 dX2_takes_78 rfl (lv_at hl 0 rfl) ?_
        refine lv_iload_n S.1 S.2.1 dX2_takes_79 rfl (lv_at hl 1 rfl) ?_
        refine lv_bipush (v := 7) S.1 S.2.1 dX2_takes_80 (by decide) ?_
        obtain ⟨r18, F19, G20, hg17, hf⟩ := x_b3E hf
        refine x_cA (As := [.int p1, .int 7]) (rest := []) (st' := [.int r18]) (ws' := (wX2 cI cC cZ h a b F19 G Fo G20)) S I (tX2_takesLimit l D cI cC cZ h a b F G Fo Go p1 7 (r18, F19, G20) hg17) (cwV 2 S.2.2.2.2 gX2_takes_X2_takesLimit rfl rfl rfl (by decide +kernel) ⟨Nat.le_of_ble_eq_true rfl, Nat.le_of_ble_eq_true rfl⟩) 0 1 rfl rfl rfl rfl hl rfl (Nat.le_of_ble_eq_true rfl) ⟨Nat.zero_le _, Nat.zero_le _⟩ rfl dX2_takes_82 (fun H locs I => ?_)
        exact x_ri E rfl rfl hf rfl I rfl dX2_takes_85
      · replace hf := x_ifF hf c16
        by_cases c21 : (F 4) = 3
        · replace hf := x_ifT hf c21
          refine lv_tableIn (off := 82) (tgt := 86) S.1 S.2.1 dX2_takes_4 (by rw [c21]; decide) (by rw [c21]; decide) (by rw [c21]; rfl) (by decide) ?_
          refine lv_aload_n S.1 S.2.1 dX2_takes_86 rfl (lv_at hl 0 rfl) ?_
          refine lv_iload_n S.1 S.2.1 dX2_takes_87 rfl (lv_at hl 1 rfl) ?_
          obtain ⟨r23, F24, G25, hg22, hf⟩ := x_b3E hf
          refine x_cA (As := [.int p1]) (rest := []) (st' := [.int r23]) (ws' := (wX2 cI cC cZ h a b F24 G Fo G25)) S I (tX2_takesVariable l D cI cC cZ h a b F G Fo Go p1 (r23, F24, G25) hg22) (cwV 1 S.2.2.2.2 gX2_takes_X2_takesVariable rfl rfl rfl (by decide +kernel) ⟨Nat.le_of_ble_eq_true rfl, Nat.le_of_ble_eq_true rfl⟩) 0 1 rfl rfl rfl rfl hl rfl (Nat.le_of_ble_eq_true rfl) ⟨Nat.zero_le _, Nat.zero_le _⟩ rfl dX2_takes_88 (fun H locs I => ?_)
          exact x_ri E rfl rfl hf rfl I rfl dX2_takes_91
        · replace hf := x_ifF hf c21
          by_cases c26 : (F 4) = 4
          · replace hf := x_ifT hf c26
            refine lv_tableIn (off := 88) (tgt := 92) S.1 S.2.1 dX2_takes_4 (by rw [c26]; decide) (by rw [c26]; decide) (by rw [c26]; rfl) (by decide) ?_
            refine lv_aload_n S.1 S.2.1 dX2_takes_92 rfl (lv_at hl 0 rfl) ?_
            refine lv_iload_n S.1 S.2.1 dX2_takes_93 rfl (lv_at hl 1 rfl) ?_
            refine lv_iconst (v := 0) S.1 S.2.1 dX2_takes_94 (by decide) ?_
            obtain ⟨r28, F29, G30, hg27, hf⟩ := x_b3E hf
            refine x_cA (As := [.int p1, .int 0]) (rest := []) (st' := [.int r28]) (ws' := (wX2 cI cC cZ h a b F29 G Fo G30)) S I (tX2_takesLimit l D cI cC cZ h a b F G Fo Go p1 0 (r28, F29, G30) hg27) (cwV 2 S.2.2.2.2 gX2_takes_X2_takesLimit rfl rfl rfl (by decide +kernel) ⟨Nat.le_of_ble_eq_true rfl, Nat.le_of_ble_eq_true rfl⟩) 0 1 rfl rfl rfl rfl hl rfl (Nat.le_of_ble_eq_true rfl) ⟨Nat.zero_le _, Nat.zero_le _⟩ rfl dX2_takes_95 (fun H locs I => ?_)
            exact x_ri E rfl rfl hf rfl I rfl dX2_takes_98
          · replace hf := x_ifF hf c26
            by_cases c31 : (F 4) = 5
            · replace hf := x_ifT hf c31
              refine lv_tableIn (off := 95) (tgt := 99) S.1 S.2.1 dX2_takes_4 (by rw [c31]; decide) (by rw [c31]; decide) (by rw [c31]; rfl) (by decide) ?_
              refine lv_aload_n S.1 S.2.1 dX2_takes_99 rfl (lv_at hl 0 rfl) ?_
              refine lv_iload_n S.1 S.2.1 dX2_takes_100 rfl (lv_at hl 1 rfl) ?_
              obtain ⟨r33, hg32, hf⟩ := x_b1E hf
              refine x_c0 (As := [.int p1]) (rest := [.ref h]) (st' := [.int r33, .ref h]) S I rfl (tX0_isOperator l D cI cC cZ p1 r33 hg32) (va_cwS 1 S.2.2.2.2 gX2_takes_X0_isOperator rfl rfl rfl (by decide +kernel) ⟨Nat.le_of_ble_eq_true rfl, Nat.le_of_ble_eq_true rfl⟩) hl rfl (Nat.le_of_ble_eq_true rfl) ⟨Nat.zero_le _, Nat.zero_le _⟩ rfl dX2_takes_101 (fun H locs I => ?_)
              refine lv_iload_n S.1 S.2.1 dX2_takes_104 rfl (lv_at hl 1 rfl) ?_
              refine lv_iconst (v := 0) S.1 S.2.1 dX2_takes_105 (by decide) ?_
              obtain ⟨r35, F36, G37, hg34, hf⟩ := x_b3E hf
              refine x_cA (As := [.int r33, .int p1, .int 0]) (rest := []) (st' := [.int r35]) (ws' := (wX2 cI cC cZ h a b F36 G Fo G37)) S I (tX2_takesKind l D cI cC cZ h a b F G Fo Go r33 p1 0 (r35, F36, G37) hg34) (cwV 3 S.2.2.2.2 gX2_takes_X2_takesKind rfl rfl rfl (by decide +kernel) ⟨Nat.le_of_ble_eq_true rfl, Nat.le_of_ble_eq_true rfl⟩) 0 1 rfl rfl rfl rfl hl rfl (Nat.le_of_ble_eq_true rfl) ⟨Nat.zero_le _, Nat.zero_le _⟩ rfl dX2_takes_106 (fun H locs I => ?_)
              exact x_ri E rfl rfl hf rfl I rfl dX2_takes_109
            · replace hf := x_ifF hf c31
              by_cases c38 : (F 4) = 6
              · replace hf := x_ifT hf c38
                refine lv_tableIn (off := 106) (tgt := 110) S.1 S.2.1 dX2_takes_4 (by rw [c38]; decide) (by rw [c38]; decide) (by rw [c38]; rfl) (by decide) ?_
                refine lv_aload_n S.1 S.2.1 dX2_takes_110 rfl (lv_at hl 0 rfl) ?_
                refine lv_iload_n S.1 S.2.1 dX2_takes_111 rfl (lv_at hl 1 rfl) ?_
                obtain ⟨r40, F41, hg39, hf⟩ := x_b2E hf
                refine x_cA (As := [.int p1]) (rest := []) (st' := [.int r40]) (ws' := (wX2 cI cC cZ h a b F41 G Fo Go)) S I (tX2_takesClose l D cI cC cZ h a b F G Fo Go p1 (r40, F41) hg39) (cwV 1 S.2.2.2.2 gX2_takes_X2_takesClose rfl rfl rfl (by decide +kernel) ⟨Nat.le_of_ble_eq_true rfl, Nat.le_of_ble_eq_true rfl⟩) 0 1 rfl rfl rfl rfl hl rfl (Nat.le_of_ble_eq_true rfl) ⟨Nat.zero_le _, Nat.zero_le _⟩ rfl dX2_takes_112 (fun H locs I => ?_)
                exact x_ri E rfl rfl hf rfl I rfl dX2_takes_115
              · replace hf := x_ifF hf c38
                refine lv_tableOut (tgt := 116) S.1 S.2.1 dX2_takes_4 (by have e0 := lv_neT c1 (a := 0) (by decide); have e1 := lv_neT c8 (a := 1) (by decide); have e2 := lv_neT c16 (a := 2) (by decide); have e3 := lv_neT c21 (a := 3) (by decide); have e4 := lv_neT c26 (a := 4) (by decide); have e5 := lv_neT c31 (a := 5) (by decide); have e6 := lv_neT c38 (a := 6) (by decide); omega) (by decide) ?_
                refine lv_iconst (v := 0) S.1 S.2.1 dX2_takes_116 (by decide) ?_
                exact x_ri E rfl x_n0 hf rfl I rfl dX2_takes_117
set_option maxHeartbeats 4000000 in
set_option maxRecDepth 100000 in
theorem tX2_dueBehindPart (l : Launch) (D : va_G) (cI cC cZ : ClassId) (h : Nat) (a b : Nat → Nat) (F : xF) (G : xG) (Fo : xF) (Go : xG) (p1 : Int32) (res : Int32 × xG) (hf : fX2_dueBehindPart F Go p1 = some res) : xC l yX2_dueBehindPart wsX2_dueBehindPart rmX2_dueBehindPart D [.ref h, .int p1] (wX2 cI cC cZ h a b F G Fo Go) (fun t => (wX2 cI cC cZ h a b F G Fo t.2)) (xT cI cC cZ) (fun t => some (.int t.1)) res := by
  have kX0 : ∀ w ∈ u_ws RX0 TX0 11, w ∈ wsX2_dueBehindPart := by decide +kernel
  have kX2 : ∀ w ∈ u_ws RX2 TX2 6, w ∈ wsX2_dueBehindPart := by decide +kernel
  refine x_of (cc := cX2_dueBehindPart) (maxL := 2) (ret := (some .int)) (by decide) rfl (Nat.le_of_ble_eq_true rfl) ?_
  intro p e s m args below meth c A Q ls S I E hl
  replace hl : lv_has ls 2 [(0, .ref h), (1, .int p1)] := hl
  replace hf := (fX2_dueBehindPart_e _ _ _).symm.trans hf
  refine lv_aload_n S.1 S.2.1 dX2_dueBehindPart_0 rfl (lv_at hl 0 rfl) ?_
  refine x_get (C := RX2) (T := TX2) (N := 6) (ci := 1) (v := .ref (a 0)) S kX2 rfl I 0 0 rfl (by decide) (by decide +kernel) rfl dX2_dueBehindPart_1 ?_
  refine x_getN (host := "ReversalCourt") (C := RX0) (T := TX0) (N := 11) (ci := 0) (v := .ref (b 0)) S kX0 rfl I 2 0 rfl (by decide) (by decide +kernel) rfl dX2_dueBehindPart_4 ?_
  refine lv_aload_n S.1 S.2.1 dX2_dueBehindPart_7 rfl (lv_at hl 0 rfl) ?_
  refine x_get (C := RX2) (T := TX2) (N := 6) (ci := 1) (v := .int (F 5)) S kX2 rfl I 0 5 rfl (by decide) (by decide +kernel) rfl dX2_dueBehindPart_8 ?_
  obtain ⟨hi1, hf⟩ := x_ldE hf
  refine x_cald (f := (Go 0)) S I 3 1 rfl rfl hi1 dX2_dueBehindPart_11 ?_
  obtain ⟨r3, hg2, hf⟩ := x_b1E hf
  refine x_c0 (As := [.int ((Go 0) (F 5).toNatClampNeg)]) (rest := []) (st' := [.int r3]) S I rfl (tX0_isOperator l D cI cC cZ ((Go 0) (F 5).toNatClampNeg) r3 hg2) (va_cwS 1 S.2.2.2.2 gX2_dueBehindPart_X0_isOperator rfl rfl rfl (by decide +kernel) ⟨Nat.le_of_ble_eq_true rfl, Nat.le_of_ble_eq_true rfl⟩) hl rfl (Nat.le_of_ble_eq_true rfl) ⟨Nat.zero_le _, Nat.zero_le _⟩ rfl dX2_dueBehindPart_12 (fun H locs I => ?_)
  refine lv_if_eq (tgt := 34) S.1 S.2.1 dX2_dueBehindPart_15 (by decide) (fun c4 => ?_) (fun c4 => ?_)
  · replace hf := x_ifT hf c4
    refine lv_aload_n S.1 S.2.1 dX2_dueBehindPart_34 rfl (lv_at hl 0 rfl) ?_
    refine x_get (C := RX2) (T := TX2) (N := 6) (ci := 1) (v := .ref (a 0)) S kX2 rfl I 0 0 rfl (by decide) (by decide +kernel) rfl dX2_dueBehindPart_35 ?_
    refine x_getN (host := "ReversalCourt") (C := RX0) (T := TX0) (N := 11) (ci := 0) (v := .ref (b 3)) S kX0 rfl I 2 3 rfl (by decide) (by decide +kernel) rfl dX2_dueBehindPart_38 ?_
    refine lv_aload_n S.1 S.2.1 dX2_dueBehindPart_41 rfl (lv_at hl 0 rfl) ?_
    refine x_get (C := RX2) (T := TX2) (N := 6) (ci := 1) (v := .int (F 5)) S kX2 rfl I 0 5 rfl (by decide) (by decide +kernel) rfl dX2_dueBehindPart_42 ?_
    refine lv_iload_n S.1 S.2.1 dX2_dueBehindPart_45 rfl (lv_at hl 1 rfl) ?_
    obtain ⟨hi5, hf⟩ := x_ldE hf
    refine x_iast (f := (Go 3)) (ws' := (wX2 cI cC cZ h a b F G Fo (va_up Go 3 (upd (Go 3) (F 5).toNatClampNeg p1)))) S I 6 0 rfl rfl hi5 rfl dX2_dueBehindPart_46 (fun H locs I => ?_)
    refine lv_aload_n S.1 S.2.1 dX2_dueBehindPart_47 rfl (lv_at hl 0 rfl) ?_
    refine x_get (C := RX2) (T := TX2) (N := 6) (ci := 1) (v := .ref (a 0)) S kX2 rfl I 0 0 rfl (by decide) (by decide +kernel) rfl dX2_dueBehindPart_48 ?_
    refine x_getN (host := "ReversalCourt") (C := RX0) (T := TX0) (N := 11) (ci := 0) (v := .ref (b 0)) S kX0 rfl I 2 0 rfl (by decide) (by decide +kernel) rfl dX2_dueBehindPart_51 ?_
    refine lv_aload_n S.1 S.2.1 dX2_dueBehindPart_54 rfl (lv_at hl 0 rfl) ?_
    refine x_get (C := RX2) (T := TX2) (N := 6) (ci := 1) (v := .int (F 5)) S kX2 rfl I 0 5 rfl (by decide) (by decide +kernel) rfl dX2_dueBehindPart_55 ?_
    obtain ⟨hi6, hf⟩ := x_ldE hf
    refine x_cald (f := (Go 0)) S I 3 1 rfl rfl hi6 dX2_dueBehindPart_58 ?_
    refine lv_bipush (v := 40) S.1 S.2.1 dX2_dueBehindPart_59 (by decide) ?_
    refine lv_icmp_ne (tgt := 68) S.1 S.2.1 dX2_dueBehindPart_61 (by decide) (fun c7 => ?_) (fun c7 => ?_)
    · replace hf := x_ifF hf c7
      refine lv_bipush (v := 7) S.1 S.2.1 dX2_dueBehindPart_68 (by decide) ?_
      exact x_ri E rfl rfl hf rfl I rfl dX2_dueBehindPart_70
    · replace hf := x_ifT hf c7
      refine lv_iconst (v := 5) S.1 S.2.1 dX2_dueBehindPart_64 (by decide) ?_
      refine lv_goto (tgt := 70) S.1 S.2.1 dX2_dueBehindPart_65 (by decide) ?_
      exact x_ri E rfl rfl hf rfl I rfl dX2_dueBehindPart_70
  · replace hf := x_ifF hf c4
    refine lv_aload_n S.1 S.2.1 dX2_dueBehindPart_18 rfl (lv_at hl 0 rfl) ?_
    refine x_get (C := RX2) (T := TX2) (N := 6) (ci := 1) (v := .ref (a 0)) S kX2 rfl I 0 0 rfl (by decide) (by decide +kernel) rfl dX2_dueBehindPart_19 ?_
    refine x_getN (host := "ReversalCourt") (C := RX0) (T := TX0) (N := 11) (ci := 0) (v := .ref (b 4)) S kX0 rfl I 2 4 rfl (by decide) (by decide +kernel) rfl dX2_dueBehindPart_22 ?_
    refine lv_aload_n S.1 S.2.1 dX2_dueBehindPart_25 rfl (lv_at hl 0 rfl) ?_
    refine x_get (C := RX2) (T := TX2) (N := 6) (ci := 1) (v := .int (F 5)) S kX2 rfl I 0 5 rfl (by decide) (by decide +kernel) rfl dX2_dueBehindPart_26 ?_
    refine lv_iload_n S.1 S.2.1 dX2_dueBehindPart_29 rfl (lv_at hl 1 rfl) ?_
    obtain ⟨hi8, hf⟩ := x_ldE hf
    refine x_iast (f := (Go 4)) (ws' := (wX2 cI cC cZ h a b F G Fo (va_up Go 4 (upd (Go 4) (F 5).toNatClampNeg p1)))) S I 7 0 rfl rfl hi8 rfl dX2_dueBehindPart_30 (fun H locs I => ?_)
    refine lv_bipush (v := 6) S.1 S.2.1 dX2_dueBehindPart_31 (by decide) ?_
    exact x_ri E rfl rfl hf rfl I rfl dX2_dueBehindPart_33
set_option maxHeartbeats 4000000 in
set_option maxRecDepth 100000 in
theorem tX2_finish (l : Launch) (D : va_G) (cI cC cZ : ClassId) (h : Nat) (a b : Nat → Nat) (F : xF) (G : xG) (Fo : xF) (Go : xG) (res : xF × xG) (hf : fX2_finish F G Go = some res) : xC l yX2_finish wsX2_finish rmX2_finish D [.ref h] (wX2 cI cC cZ h a b F G Fo Go) (fun t => (wX2 cI cC cZ h a b t.1 G Fo t.2)) (xT cI cC cZ) (fun _ => none) res := by
  have kX2 : ∀ w ∈ u_ws RX2 TX2 6, w ∈ wsX2_finish := by decide +kernel
  refine x_of (cc := cX2_finish) (maxL := 3) (ret := none) (by decide) rfl (Nat.le_of_ble_eq_true rfl) ?_
  intro p e s m args below meth c A Q ls S I E hl
  replace hl : lv_has ls 3 [(0, .ref h)] := hl
  replace hf := (fX2_finish_e _ _ _).symm.trans hf
  refine lv_aload_n S.1 S.2.1 dX2_finish_0 rfl (lv_at hl 0 rfl) ?_
  refine x_get (C := RX2) (T := TX2) (N := 6) (ci := 1) (v := .int (F 5)) S kX2 rfl I 0 5 rfl (by decide) (by decide +kernel) rfl dX2_finish_1 ?_
  refine lv_istore_n (lv' := [(1, .int (F 5)), (0, .ref h)]) S.1 S.2.1 dX2_finish_4 rfl hl (by decide) rfl (fun ls hl => ?_)
  refine lv_iconst (v := 0) S.1 S.2.1 dX2_finish_5 (by decide) ?_
  refine lv_istore_n (lv' := [(2, .int 0), (1, .int (F 5)), (0, .ref h)]) S.1 S.2.1 dX2_finish_6 rfl hl (by decide) rfl (fun ls hl => ?_)
  have hl7 : ∀ (n7 : Nat), ∀ (v1 : Int32) (v2 : Int32) (G3 : xG) (F4 : xF) (H : Heap) (locs : List Loc) (ls : Array Slot), (fX2_finish_l7 G n7) v1 v2 G3 F4 = some res → xI D A s (wX2 cI cC cZ h a b F4 G Fo G3) (xT cI cC cZ) H locs → lv_has ls 3 [(2, .int v2), (1, .int v1), (0, .ref h)] → W p l e (headSpec wsX2_finish rmX2_finish).room s m args below meth c H locs 0 0 Q (F0 m 7 ls []) := by
    intro n7
    induction n7 with
    | zero =>
      intro v1 v2 G3 F4 H locs ls hf I hl
      cases (fX2_finish_l7_z _ _ _ _ _).symm.trans hf
    | succ n7 ih7 =>
      intro v1 v2 G3 F4 H locs ls hf I hl
      replace hf := (fX2_finish_l7_e _ _ _ _ _ _).symm.trans hf
      refine lv_iload_n S.1 S.2.1 dX2_finish_7 rfl (lv_at hl 0 rfl) ?_
      refine lv_bipush (v := 40) S.1 S.2.1 dX2_finish_8 (by decide) ?_
      refine lv_icmp_ge (tgt := 69) S.1 S.2.1 dX2_finish_10 (by decide) (fun c5 => ?_) (fun c5 => ?_)
      · replace hf := x_ifT hf c5
        exact x_rv E rfl hf rfl I rfl dX2_finish_69
      · replace hf := x_ifF hf c5
        refine lv_aload_n S.1 S.2.1 dX2_finish_13 rfl (lv_at hl 2 rfl) ?_
        refine x_get (C := RX2) (T := TX2) (N := 6) (ci := 1) (v := .int (F4 4)) S kX2 rfl I 0 4 rfl (by decide) (by decide +kernel) rfl dX2_finish_14 ?_
        refine lv_bipush (v := 7) S.1 S.2.1 dX2_finish_17 (by decide) ?_
        refine lv_icmp_ne (tgt := 69) S.1 S.2.1 dX2_finish_19 (by decide) (fun c6 => ?_) (fun c6 => ?_)
        · replace hf := x_ifF hf c6
          exact x_rv E rfl hf rfl I rfl dX2_finish_69
        · replace hf := x_ifT hf c6
          refine lv_aload_n S.1 S.2.1 dX2_finish_22 rfl (lv_at hl 2 rfl) ?_
          refine x_get (C := RX2) (T := TX2) (N := 6) (ci := 1) (v := .ref (a 0)) S kX2 rfl I 0 0 rfl (by decide) (by decide +kernel) rfl dX2_finish_23 ?_
          refine lv_iload_n S.1 S.2.1 dX2_finish_26 rfl (lv_at hl 1 rfl) ?_
          obtain ⟨G8, hg7, hf⟩ := x_b1E hf
          refine x_cV (As := [.int v1]) (rest := []) (st' := []) (ws' := (wX2 cI cC cZ h a b F4 G Fo G8)) S I (tX0_weigh l D cI cC cZ (a 0) b Fo G3 v1 G8 hg7) (cwV 1 S.2.2.2.2 gX2_finish_X0_weigh rfl rfl rfl (by decide +kernel) ⟨Nat.le_of_ble_eq_true rfl, Nat.le_of_ble_eq_true rfl⟩) 2 0 rfl rfl rfl [2, 3, 4, 5, 6, 7, 8, 9, 10, 11] [0, 1] [0, 1, 2, 3, 4, 5, 6, 7, 8, 9, 10, 11] rfl rfl rfl rfl (by decide) rfl rfl rfl hl rfl (Nat.le_of_ble_eq_true rfl) ⟨Nat.zero_le _, Nat.zero_le _⟩ rfl dX2_finish_27 (fun H locs I => ?_)
          refine lv_aload_n S.1 S.2.1 dX2_finish_30 rfl (lv_at hl 2 rfl) ?_
          refine lv_aload_n S.1 S.2.1 dX2_finish_31 rfl (lv_at hl 2 rfl) ?_
          refine x_get (C := RX2) (T := TX2) (N := 6) (ci := 1) (v := .ref (a 1)) S kX2 rfl I 0 1 rfl (by decide) (by decide +kernel) rfl dX2_finish_32 ?_
          refine lv_iload_n S.1 S.2.1 dX2_finish_35 rfl (lv_at hl 1 rfl) ?_
          obtain ⟨hi9, hf⟩ := x_ldE hf
          refine x_iald (f := (G 1)) S I 1 0 rfl rfl hi9 dX2_finish_36 ?_
          refine x_put (C := RX2) (T := TX2) (N := 6) (ci := 1) (ws' := (wX2 cI cC cZ h a b (va_up F4 5 ((G 1) v1.toNatClampNeg)) G Fo G8)) S kX2 tyX2 tyX2_ok nmX2 rfl I 0 5 rfl (by decide) (by decide +kernel) rfl rfl (Nat.le_of_ble_eq_true rfl) rfl dX2_finish_37 (fun H locs I => ?_)
          refine lv_aload_n S.1 S.2.1 dX2_finish_40 rfl (lv_at hl 2 rfl) ?_
          refine x_get (C := RX2) (T := TX2) (N := 6) (ci := 1) (v := .int ((G 1) v1.toNatClampNeg)) S kX2 rfl I 0 5 rfl (by decide) (by decide +kernel) rfl dX2_finish_41 ?_
          refine lv_iconst (v := (-1)) S.1 S.2.1 dX2_finish_44 (by decide) ?_
          refine lv_icmp_ne (tgt := 49) S.1 S.2.1 dX2_finish_45 (by decide) (fun c10 => ?_) (fun c10 => ?_)
          · replace hf := x_ifF hf c10
            refine lv_aload_n S.1 S.2.1 dX2_finish_49 rfl (lv_at hl 2 rfl) ?_
            refine lv_aload_n S.1 S.2.1 dX2_finish_50 rfl (lv_at hl 2 rfl) ?_
            refine lv_iload_n S.1 S.2.1 dX2_finish_51 rfl (lv_at hl 1 rfl) ?_
            obtain ⟨r12, G13, hg11, hf⟩ := x_b2E hf
            refine x_cA (As := [.int v1]) (rest := [.ref h]) (st' := [.int r12, .ref h]) (ws' := (wX2 cI cC cZ h a b (va_up F4 5 ((G 1) v1.toNatClampNeg)) G Fo G13)) S I (tX2_dueBehindPart l D cI cC cZ h a b (va_up F4 5 ((G 1) v1.toNatClampNeg)) G Fo G8 v1 (r12, G13) hg11) (cwV 1 S.2.2.2.2 gX2_finish_X2_dueBehindPart rfl rfl rfl (by decide +kernel) ⟨Nat.le_of_ble_eq_true rfl, Nat.le_of_ble_eq_true rfl⟩) 0 1 rfl rfl rfl rfl hl rfl (Nat.le_of_ble_eq_true rfl) ⟨Nat.zero_le _, Nat.zero_le _⟩ rfl dX2_finish_52 (fun H locs I => ?_)
            refine x_put (C := RX2) (T := TX2) (N := 6) (ci := 1) (ws' := (wX2 cI cC cZ h a b (va_up (va_up F4 5 ((G 1) v1.toNatClampNeg)) 4 r12) G Fo G13)) S kX2 tyX2 tyX2_ok nmX2 rfl I 0 4 rfl (by decide) (by decide +kernel) rfl rfl (Nat.le_of_ble_eq_true rfl) rfl dX2_finish_55 (fun H locs I => ?_)
            refine lv_aload_n S.1 S.2.1 dX2_finish_58 rfl (lv_at hl 2 rfl) ?_
            refine x_get (C := RX2) (T := TX2) (N := 6) (ci := 1) (v := .int ((G 1) v1.toNatClampNeg)) S kX2 rfl I 0 5 rfl (by decide) (by decide +kernel) rfl dX2_finish_59 ?_
            refine lv_istore_n (lv' := [(1, .int ((G 1) v1.toNatClampNeg)), (2, .int v2), (0, .ref h)]) S.1 S.2.1 dX2_finish_62 rfl hl (by decide) rfl (fun ls hl => ?_)
            refine lv_iinc (v := (v2 + 1)) (lv' := [(2, .int (v2 + 1)), (1, .int ((G 1) v1.toNatClampNeg)), (0, .ref h)]) S.1 S.2.1 dX2_finish_63 hl (k := 1) rfl rfl (by decide) rfl (fun ls hl => ?_)
            refine lv_goto (tgt := 7) S.1 S.2.1 dX2_finish_66 (by decide) ?_
            exact ih7 ((G 1) v1.toNatClampNeg) (v2 + 1) G13 (va_up (va_up F4 5 ((G 1) v1.toNatClampNeg)) 4 r12) _ _ _ hf I (lv_sub hl [0, 1, 2] rfl)
          · replace hf := x_ifT hf c10
            exact x_rv E rfl hf rfl I rfl dX2_finish_48
  exact hl7 4096 (F 5) 0 Go F _ _ _ hf I (lv_sub hl [0, 1, 2] rfl)
set_option maxHeartbeats 4000000 in
set_option maxRecDepth 100000 in
theorem tX2_type (l : Launch) (D : va_G) (cI cC cZ : ClassId) (h : Nat) (a b : Nat → Nat) (F : xF) (G : xG) (Fo : xF) (Go : xG) (p1 : Int32) (res : Int32 × xF × xG × xF × xG) (hf : fX2_type F G Fo Go p1 = some res) : xC l yX2_type wsX2_type rmX2_type D [.ref h, .int p1] (wX2 cI cC cZ h a b F G Fo Go) (fun t => (wX2 cI cC cZ h a b t.2.1 t.2.2.1 t.2.2.2.1 t.2.2.2.2)) (xT cI cC cZ) (fun t => some (.int t.1)) res := by
  have kX2 : ∀ w ∈ u_ws RX2 TX2 6, w ∈ wsX2_type := by decide +kernel
  refine x_of (cc := cX2_type) (maxL := 2) (ret := (some .int)) (by decide) rfl (Nat.le_of_ble_eq_true rfl) ?_
  intro p e s m args below meth c A Q ls S I E hl
  replace hl : lv_has ls 2 [(0, .ref h), (1, .int p1)] := hl
  replace hf := (fX2_type_e _ _ _ _ _).symm.trans hf
  refine lv_aload_n S.1 S.2.1 dX2_type_0 rfl (lv_at hl 0 rfl) ?_
  refine x_get (C := RX2) (T := TX2) (N := 6) (ci := 1) (v := .int (F 3)) S kX2 rfl I 0 3 rfl (by decide) (by decide +kernel) rfl dX2_type_1 ?_
  refine lv_iconst (v := (-1)) S.1 S.2.1 dX2_type_4 (by decide) ?_
  have hj40 : ∀ (F1 : xF) (G2 : xG) (F3 : xF) (G4 : xG) (H : Heap) (locs : List Loc) (ls : Array Slot), fX2_type_j40 F1 G2 F3 G4 = some res → xI D A s (wX2 cI cC cZ h a b F3 G4 F1 G2) (xT cI cC cZ) H locs → lv_has ls 2 [(0, .ref h)] → W p l e (headSpec wsX2_type rmX2_type).room s m args below meth c H locs 0 0 Q (F0 m 40 ls []) := by
    intro F1 G2 F3 G4 H locs ls hf I hl
    replace hf := (fX2_type_j40_e _ _ _ _).symm.trans hf
    refine lv_aload_n S.1 S.2.1 dX2_type_40 rfl (lv_at hl 0 rfl) ?_
    refine lv_dup S.1 S.2.1 dX2_type_41 rfl ?_
    refine x_get (C := RX2) (T := TX2) (N := 6) (ci := 1) (v := .int (F3 2)) S kX2 rfl I 0 2 rfl (by decide) (by decide +kernel) rfl dX2_type_42 ?_
    refine lv_iconst (v := 1) S.1 S.2.1 dX2_type_45 (by decide) ?_
    refine lv_iadd S.1 S.2.1 dX2_type_46 ?_
    refine x_put (C := RX2) (T := TX2) (N := 6) (ci := 1) (ws' := (wX2 cI cC cZ h a b (va_up F3 2 ((F3 2) + 1)) G4 F1 G2)) S kX2 tyX2 tyX2_ok nmX2 rfl I 0 2 rfl (by decide) (by decide +kernel) rfl rfl (Nat.le_of_ble_eq_true rfl) rfl dX2_type_47 (fun H locs I => ?_)
    refine lv_aload_n S.1 S.2.1 dX2_type_50 rfl (lv_at hl 0 rfl) ?_
    refine x_get (C := RX2) (T := TX2) (N := 6) (ci := 1) (v := .int ((F3 2) + 1)) S kX2 rfl I 0 2 rfl (by decide) (by decide +kernel) rfl dX2_type_51 ?_
    exact x_ri E rfl rfl hf rfl I rfl dX2_type_54
  refine lv_icmp_ne (tgt := 40) S.1 S.2.1 dX2_type_5 (by decide) (fun c5 => ?_) (fun c5 => ?_)
  · replace hf := x_ifF hf c5
    exact hj40 Fo Go F G _ _ _ hf I (lv_sub hl [0] rfl)
  · replace hf := x_ifT hf c5
    refine lv_aload_n S.1 S.2.1 dX2_type_8 rfl (lv_at hl 0 rfl) ?_
    refine lv_iload_n S.1 S.2.1 dX2_type_9 rfl (lv_at hl 1 rfl) ?_
    obtain ⟨r7, F8, G9, F10, G11, hg6, hf⟩ := x_b5E hf
    refine x_cA (As := [.int p1]) (rest := []) (st' := [.int r7]) (ws' := (wX2 cI cC cZ h a b F8 G9 F10 G11)) S I (tX2_takes l D cI cC cZ h a b F G Fo Go p1 (r7, F8, G9, F10, G11) hg6) (cwV 1 S.2.2.2.2 gX2_type_X2_takes rfl rfl rfl (by decide +kernel) ⟨Nat.le_of_ble_eq_true rfl, Nat.le_of_ble_eq_true rfl⟩) 0 1 rfl rfl rfl rfl hl rfl (Nat.le_of_ble_eq_true rfl) ⟨Nat.zero_le _, Nat.zero_le _⟩ rfl dX2_type_10 (fun H locs I => ?_)
    refine lv_if_ne (tgt := 27) S.1 S.2.1 dX2_type_13 (by decide) (fun c12 => ?_) (fun c12 => ?_)
    · replace hf := x_ifF hf c12
      refine lv_aload_n S.1 S.2.1 dX2_type_27 rfl (lv_at hl 0 rfl) ?_
      refine x_get (C := RX2) (T := TX2) (N := 6) (ci := 1) (v := .int (F8 4)) S kX2 rfl I 0 4 rfl (by decide) (by decide +kernel) rfl dX2_type_28 ?_
      refine lv_bipush (v := 7) S.1 S.2.1 dX2_type_31 (by decide) ?_
      refine lv_icmp_ne (tgt := 40) S.1 S.2.1 dX2_type_33 (by decide) (fun c13 => ?_) (fun c13 => ?_)
      · replace hf := x_ifF hf c13
        exact hj40 F10 G11 F8 G9 _ _ _ hf I (lv_sub hl [0] rfl)
      · replace hf := x_ifT hf c13
        refine lv_aload_n S.1 S.2.1 dX2_type_36 rfl (lv_at hl 0 rfl) ?_
        obtain ⟨F15, G16, hg14, hf⟩ := x_b2E hf
        refine x_cA (As := []) (rest := []) (st' := []) (ws' := (wX2 cI cC cZ h a b F15 G9 F10 G16)) S I (tX2_finish l D cI cC cZ h a b F8 G9 F10 G11 (F15, G16) hg14) (cwV 0 S.2.2.2.2 gX2_type_X2_finish rfl rfl rfl (by decide +kernel) ⟨Nat.le_of_ble_eq_true rfl, Nat.le_of_ble_eq_true rfl⟩) 0 1 rfl rfl rfl rfl hl rfl (Nat.le_of_ble_eq_true rfl) ⟨Nat.zero_le _, Nat.zero_le _⟩ rfl dX2_type_37 (fun H locs I => ?_)
        exact hj40 F10 G16 F15 G9 _ _ _ hf I (lv_sub hl [0] rfl)
    · replace hf := x_ifT hf c12
      refine lv_aload_n S.1 S.2.1 dX2_type_16 rfl (lv_at hl 0 rfl) ?_
      refine lv_aload_n S.1 S.2.1 dX2_type_17 rfl (lv_at hl 0 rfl) ?_
      refine x_get (C := RX2) (T := TX2) (N := 6) (ci := 1) (v := .int (F8 2)) S kX2 rfl I 0 2 rfl (by decide) (by decide +kernel) rfl dX2_type_18 ?_
      refine x_put (C := RX2) (T := TX2) (N := 6) (ci := 1) (ws' := (wX2 cI cC cZ h a b (va_up F8 3 (F8 2)) G9 F10 G11)) S kX2 tyX2 tyX2_ok nmX2 rfl I 0 3 rfl (by decide) (by decide +kernel) rfl rfl (Nat.le_of_ble_eq_true rfl) rfl dX2_type_21 (fun H locs I => ?_)
      refine lv_goto (tgt := 40) S.1 S.2.1 dX2_type_24 (by decide) ?_
      exact hj40 F10 G11 (va_up F8 3 (F8 2)) G9 _ _ _ hf I (lv_sub hl [0] rfl)
