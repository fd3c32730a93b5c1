set_option maxHeartbeats 4000000 in
set_option maxRecDepth 100000 in
theorem tX5_blank (l : Launch) (D : va_G) (cI cC cZ : ClassId) (h : Nat) (a b d z q : Nat → Nat) (Fp : xF) (Gp : xG) (Fo : xF) (Go : xG) (Fz : xF) (Gz : xG) (Fq : xF) (Gq : xG) (res : Int32 × xF × xF) (hf : fX5_blank Fp Fo = some res) : xC l yX5_blank wsX5_blank rmX5_blank D [.ref h] (wX5 cI cC cZ h a b d z q Fp Gp Fo Go Fz Gz Fq Gq) (fun t => (wX5 cI cC cZ h a b d z q t.2.1 Gp t.2.2 Go Fz Gz Fq Gq)) (xT cI cC cZ) (fun t => some (.int t.1)) res := by
  have kX5 : ∀ w ∈ u_ws RX5 TX5 3, w ∈ wsX5_blank := by decide +kernel
  refine x_of (cc := cX5_blank) (maxL := 1) (ret := (some .int)) (by decide) rfl (Nat.le_of_ble_eq_true rfl) ?_
  intro p e s m args below meth c A Q ls S I E hl
  replace hl : lv_has ls 1 [(0, .ref h)] := hl
  replace hf := (fX5_blank_e _ _).symm.trans hf
  refine lv_aload_n S.1 S.2.1 dX5_blank_0 rfl (lv_at hl 0 rfl) ?_
  refine x_get (C := RX5) (T := TX5) (N := 3) (ci := 4) (v := .ref (a 0)) S kX5 rfl I 0 0 rfl (by decide) (by decide +kernel) rfl dX5_blank_1 ?_
  obtain ⟨r2, F3, F4, hg1, hf⟩ := x_b3E hf
  refine x_cV (As := []) (rest := []) (st' := [.int r2]) (ws' := (wX5 cI cC cZ h a b d z q F3 Gp F4 Go Fz Gz Fq Gq)) S I (tX2_wipe l D cI cC cZ (a 0) b d Fp Gp Fo Go (r2, F3, F4) hg1) (cwV 0 S.2.2.2.2 gX5_blank_X2_wipe rfl rfl rfl (by decide +kernel) ⟨Nat.le_of_ble_eq_true rfl, Nat.le_of_ble_eq_true rfl⟩) 1 1 rfl rfl rfl [1, 2, 3, 4, 5, 6, 7, 8, 9, 10, 11, 12] [0, 13, 14, 15, 16, 17, 18, 19, 20, 21, 22, 23, 24, 25, 26] [0, 15, 16, 17, 18, 19, 20, 21, 22, 23, 24, 25, 26, 1, 2, 3, 4, 5, 6, 7, 8, 9, 10, 11, 12, 13, 14] rfl rfl rfl rfl (by decide) rfl rfl rfl hl rfl (Nat.le_of_ble_eq_true rfl) ⟨Nat.zero_le _, Nat.zero_le _⟩ rfl dX5_blank_4 (fun H locs I => ?_)
  exact x_ri E rfl rfl hf rfl I rfl dX5_blank_7
set_option maxHeartbeats 4000000 in
set_option maxRecDepth 100000 in
theorem tX5_fault (l : Launch) (D : va_G) (cI cC cZ : ClassId) (h : Nat) (a b d z q : Nat → Nat) (Fp : xF) (Gp : xG) (Fo : xF) (Go : xG) (Fz : xF) (Gz : xG) (Fq : xF) (Gq : xG) (res : Int32) (hf : fX5_fault Fp = some res) : xC l yX5_fault wsX5_fault rmX5_fault D [.ref h] (wX5 cI cC cZ h a b d z q Fp Gp Fo Go Fz Gz Fq Gq) (fun _ => (wX5 cI cC cZ h a b d z q Fp Gp Fo Go Fz Gz Fq Gq)) (xT cI cC cZ) (fun t => some (.int t)) res := by
  have kX5 : ∀ w ∈ u_ws RX5 TX5 3, w ∈ wsX5_fault := by decide +kernel
  refine x_of (cc := cX5_fault) (maxL := 1) (ret := (some .int)) (by decide) rfl (Nat.le_of_ble_eq_true rfl) ?_
  intro p e s m args below meth c A Q ls S I E hl
  replace hl : lv_has ls 1 [(0, .ref h)] := hl
  replace hf := (fX5_fault_e _).symm.trans hf
  refine lv_aload_n S.1 S.2.1 dX5_fault_0 rfl (lv_at hl 0 rfl) ?_
  refine x_get (C := RX5) (T := TX5) (N := 3) (ci := 4) (v := .ref (a 0)) S kX5 rfl I 0 0 rfl (by decide) (by decide +kernel) rfl dX5_fault_1 ?_
  obtain ⟨r2, hg1, hf⟩ := x_b1E hf
  refine x_cV (As := []) (rest := []) (st' := [.int r2]) (ws' := (wX5 cI cC cZ h a b d z q Fp Gp Fo Go Fz Gz Fq Gq)) S I (tX2_faultPlace l D cI cC cZ (a 0) b d Fp Gp Fo Go r2 hg1) (cwV 0 S.2.2.2.2 gX5_fault_X2_faultPlace rfl rfl rfl (by decide +kernel) ⟨Nat.le_of_ble_eq_true rfl, Nat.le_of_ble_eq_true rfl⟩) 1 1 rfl rfl rfl [1, 2, 3, 4, 5, 6, 7, 8, 9, 10, 11, 12] [0, 13, 14, 15, 16, 17, 18, 19, 20, 21, 22, 23, 24, 25, 26] [0, 15, 16, 17, 18, 19, 20, 21, 22, 23, 24, 25, 26, 1, 2, 3, 4, 5, 6, 7, 8, 9, 10, 11, 12, 13, 14] rfl rfl rfl rfl (by decide) rfl rfl rfl hl rfl (Nat.le_of_ble_eq_true rfl) ⟨Nat.zero_le _, Nat.zero_le _⟩ rfl dX5_fault_4 (fun H locs I => ?_)
  exact x_ri E rfl rfl hf rfl I rfl dX5_fault_7
set_option maxHeartbeats 4000000 in
set_option maxRecDepth 100000 in
theorem tX5_sigma (l : Launch) (D : va_G) (cI cC cZ : ClassId) (h : Nat) (a b d z q : Nat → Nat) (Fp : xF) (Gp : xG) (Fo : xF) (Go : xG) (Fz : xF) (Gz : xG) (Fq : xF) (Gq : xG) (res : Int32) (hf : fX5_sigma Fp Go = some res) : xC l yX5_sigma wsX5_sigma rmX5_sigma D [.ref h] (wX5 cI cC cZ h a b d z q Fp Gp Fo Go Fz Gz Fq Gq) (fun _ => (wX5 cI cC cZ h a b d z q Fp Gp Fo Go Fz Gz Fq Gq)) (xT cI cC cZ) (fun t => some (.int t)) res := by
  have kX2 : ∀ w ∈ u_ws RX2 TX2 6, w ∈ wsX5_sigma := by decide +kernel
  have kX5 : ∀ w ∈ u_ws RX5 TX5 3, w ∈ wsX5_sigma := by decide +kernel
  refine x_of (cc := cX5_sigma) (maxL := 1) (ret := (some .int)) (by decide) rfl (Nat.le_of_ble_eq_true rfl) ?_
  intro p e s m args below meth c A Q ls S I E hl
  replace hl : lv_has ls 1 [(0, .ref h)] := hl
  replace hf := (fX5_sigma_e _ _).symm.trans hf
  refine lv_aload_n S.1 S.2.1 dX5_sigma_0 rfl (lv_at hl 0 rfl) ?_
  refine x_get (C := RX5) (T := TX5) (N := 3) (ci := 4) (v := .ref (a 0)) S kX5 rfl I 0 0 rfl (by decide) (by decide +kernel) rfl dX5_sigma_1 ?_
  obtain ⟨r2, hg1, hf⟩ := x_b1E hf
  refine x_cV (As := []) (rest := []) (st' := [.int r2]) (ws' := (wX5 cI cC cZ h a b d z q Fp Gp Fo Go Fz Gz Fq Gq)) S I (tX2_isFormula l D cI cC cZ (a 0) b d Fp Gp Fo Go r2 hg1) (cwV 0 S.2.2.2.2 gX5_sigma_X2_isFormula rfl rfl rfl (by decide +kernel) ⟨Nat.le_of_ble_eq_true rfl, Nat.le_of_ble_eq_true rfl⟩) 1 1 rfl rfl rfl [1, 2, 3, 4, 5, 6, 7, 8, 9, 10, 11, 12] [0, 13, 14, 15, 16, 17, 18, 19, 20, 21, 22, 23, 24, 25, 26] [0, 15, 16, 17, 18, 19, 20, 21, 22, 23, 24, 25, 26, 1, 2, 3, 4, 5, 6, 7, 8, 9, 10, 11, 12, 13, 14] rfl rfl rfl rfl (by decide) rfl rfl rfl hl rfl (Nat.le_of_ble_eq_true rfl) ⟨Nat.zero_le _, Nat.zero_le _⟩ rfl dX5_sigma_4 (fun H locs I => ?_)
  refine lv_if_eq (tgt := 23) S.1 S.2.1 dX5_sigma_7 (by decide) (fun c3 => ?_) (fun c3 => ?_)
  · replace hf := x_ifT hf c3
    refine lv_iconst (v := (-1)) S.1 S.2.1 dX5_sigma_23 (by decide) ?_
    exact x_ri E rfl rfl hf rfl I rfl dX5_sigma_24
  · replace hf := x_ifF hf c3
    refine lv_aload_n S.1 S.2.1 dX5_sigma_10 rfl (lv_at hl 0 rfl) ?_
    refine x_get (C := RX5) (T := TX5) (N := 3) (ci := 4) (v := .ref (a 0)) S kX5 rfl I 0 0 rfl (by decide) (by decide +kernel) rfl dX5_sigma_11 ?_
    refine x_getN (host := "ReversalCourt") (C := RX2) (T := TX2) (N := 6) (ci := 1) (v := .ref (b 0)) S kX2 rfl I 1 0 rfl (by decide) (by decide +kernel) rfl dX5_sigma_14 ?_
    obtain ⟨r5, hg4, hf⟩ := x_b1E hf
    refine x_cV (As := []) (rest := []) (st' := [.int r5]) (ws' := (wX5 cI cC cZ h a b d z q Fp Gp Fo Go Fz Gz Fq Gq)) S I (tX0_wholeSigma l D cI cC cZ (b 0) d Fo Go r5 hg4) (cwV 0 S.2.2.2.2 gX5_sigma_X0_wholeSigma rfl rfl rfl (by decide +kernel) ⟨Nat.le_of_ble_eq_true rfl, Nat.le_of_ble_eq_true rfl⟩) 3 0 rfl rfl rfl [3, 4, 5, 6, 7, 8, 9, 10, 11, 12] [0, 1, 2, 13, 14, 15, 16, 17, 18, 19, 20, 21, 22, 23, 24, 25, 26] [0, 1, 2, 17, 18, 19, 20, 21, 22, 23, 24, 25, 26, 3, 4, 5, 6, 7, 8, 9, 10, 11, 12, 13, 14, 15, 16] rfl rfl rfl rfl (by decide) rfl rfl rfl hl rfl (Nat.le_of_ble_eq_true rfl) ⟨Nat.zero_le _, Nat.zero_le _⟩ rfl dX5_sigma_17 (fun H locs I => ?_)
    refine lv_goto (tgt := 24) S.1 S.2.1 dX5_sigma_20 (by decide) ?_
    exact x_ri E rfl rfl hf rfl I rfl dX5_sigma_24
set_option maxHeartbeats 4000000 in
set_option maxRecDepth 100000 in
theorem tX5_pi (l : Launch) (D : va_G) (cI cC cZ : ClassId) (h : Nat) (a b d z q : Nat → Nat) (Fp : xF) (Gp : xG) (Fo : xF) (Go : xG) (Fz : xF) (Gz : xG) (Fq : xF) (Gq : xG) (res : Int32) (hf : fX5_pi Fp Go = some res) : xC l yX5_pi wsX5_pi rmX5_pi D [.ref h] (wX5 cI cC cZ h a b d z q Fp Gp Fo Go Fz Gz Fq Gq) (fun _ => (wX5 cI cC cZ h a b d z q Fp Gp Fo Go Fz Gz Fq Gq)) (xT cI cC cZ) (fun t => some (.int t)) res := by
  have kX2 : ∀ w ∈ u_ws RX2 TX2 6, w ∈ wsX5_pi := by decide +kernel
  have kX5 : ∀ w ∈ u_ws RX5 TX5 3, w ∈ wsX5_pi := by decide +kernel
  refine x_of (cc := cX5_pi) (maxL := 1) (ret := (some .int)) (by decide) rfl (Nat.le_of_ble_eq_true rfl) ?_
  intro p e s m args below meth c A Q ls S I E hl
  replace hl : lv_has ls 1 [(0, .ref h)] := hl
  replace hf := (fX5_pi_e _ _).symm.trans hf
  refine lv_aload_n S.1 S.2.1 dX5_pi_0 rfl (lv_at hl 0 rfl) ?_
  refine x_get (C := RX5) (T := TX5) (N := 3) (ci := 4) (v := .ref (a 0)) S kX5 rfl I 0 0 rfl (by decide) (by decide +kernel) rfl dX5_pi_1 ?_
  obtain ⟨r2, hg1, hf⟩ := x_b1E hf
  refine x_cV (As := []) (rest := []) (st' := [.int r2]) (ws' := (wX5 cI cC cZ h a b d z q Fp Gp Fo Go Fz Gz Fq Gq)) S I (tX2_isFormula l D cI cC cZ (a 0) b d Fp Gp Fo Go r2 hg1) (cwV 0 S.2.2.2.2 gX5_pi_X2_isFormula rfl rfl rfl (by decide +kernel) ⟨Nat.le_of_ble_eq_true rfl, Nat.le_of_ble_eq_true rfl⟩) 1 1 rfl rfl rfl [1, 2, 3, 4, 5, 6, 7, 8, 9, 10, 11, 12] [0, 13, 14, 15, 16, 17, 18, 19, 20, 21, 22, 23, 24, 25, 26] [0, 15, 16, 17, 18, 19, 20, 21, 22, 23, 24, 25, 26, 1, 2, 3, 4, 5, 6, 7, 8, 9, 10, 11, 12, 13, 14] rfl rfl rfl rfl (by decide) rfl rfl rfl hl rfl (Nat.le_of_ble_eq_true rfl) ⟨Nat.zero_le _, Nat.zero_le _⟩ rfl dX5_pi_4 (fun H locs I => ?_)
  refine lv_if_eq (tgt := 23) S.1 S.2.1 dX5_pi_7 (by decide) (fun c3 => ?_) (fun c3 => ?_)
  · replace hf := x_ifT hf c3
    refine lv_iconst (v := (-1)) S.1 S.2.1 dX5_pi_23 (by decide) ?_
    exact x_ri E rfl rfl hf rfl I rfl dX5_pi_24
  · replace hf := x_ifF hf c3
    refine lv_aload_n S.1 S.2.1 dX5_pi_10 rfl (lv_at hl 0 rfl) ?_
    refine x_get (C := RX5) (T := TX5) (N := 3) (ci := 4) (v := .ref (a 0)) S kX5 rfl I 0 0 rfl (by decide) (by decide +kernel) rfl dX5_pi_11 ?_
    refine x_getN (host := "ReversalCourt") (C := RX2) (T := TX2) (N := 6) (ci := 1) (v := .ref (b 0)) S kX2 rfl I 1 0 rfl (by decide) (by decide +kernel) rfl dX5_pi_14 ?_
    obtain ⟨r5, hg4, hf⟩ := x_b1E hf
    refine x_cV (As := []) (rest := []) (st' := [.int r5]) (ws' := (wX5 cI cC cZ h a b d z q Fp Gp Fo Go Fz Gz Fq Gq)) S I (tX0_wholePi l D cI cC cZ (b 0) d Fo Go r5 hg4) (cwV 0 S.2.2.2.2 gX5_pi_X0_wholePi rfl rfl rfl (by decide +kernel) ⟨Nat.le_of_ble_eq_true rfl, Nat.le_of_ble_eq_true rfl⟩) 3 0 rfl rfl rfl [3, 4, 5, 6, 7, 8, 9, 10, 11, 12] [0, 1, 2, 13, 14, 15, 16, 17, 18, 19, 20, 21, 22, 23, 24, 25, 26] [0, 1, 2, 17, 18, 19, 20, 21, 22, 23, 24, 25, 26, 3, 4, 5, 6, 7, 8, 9, 10, 11, 12, 13, 14, 15, 16] rfl rfl rfl rfl (by decide) rfl rfl rfl hl rfl (Nat.le_of_ble_eq_true rfl) ⟨Nat.zero_le _, Nat.zero_le _⟩ rfl dX5_pi_17 (fun H locs I => ?_)
    refine lv_goto (tgt := 24) S.1 S.2.1 dX5_pi_20 (by decide) ?_
    exact x_ri E rfl rfl hf rfl I rfl dX5_pi_24
set_option maxHeartbeats 4000000 in
set_option maxRecDepth 100000 in
theorem tX5_free (l : Launch) (D : va_G) (cI cC cZ : ClassId) (h : Nat) (a b d z q : Nat → Nat) (Fp : xF) (Gp : xG) (Fo : xF) (Go : xG) (Fz : xF) (Gz : xG) (Fq : xF) (Gq : xG) (res : Int32) (hf : fX5_free Fp Go = some res) : xC l yX5_free wsX5_free rmX5_free D [.ref h] (wX5 cI cC cZ h a b d z q Fp Gp Fo Go Fz Gz Fq Gq) (fun _ => (wX5 cI cC cZ h a b d z q Fp Gp Fo Go Fz Gz Fq Gq)) (xT cI cC cZ) (fun t => some (.int t)) res := by
  have kX2 : ∀ w ∈ u_ws RX2 TX2 6, w ∈ wsX5_free := by decide +kernel
  have kX5 : ∀ w ∈ u_ws RX5 TX5 3, w ∈ wsX5_free := by decide +kernel
  refine x_of (cc := cX5_free) (maxL := 1) (ret := (some .int)) (by decide) rfl (Nat.le_of_ble_eq_true rfl) ?_
  intro p e s m args below meth c A Q ls S I E hl
  replace hl : lv_has ls 1 [(0, .ref h)] := hl
  replace hf := (fX5_free_e _ _).symm.trans hf
  refine lv_aload_n S.1 S.2.1 dX5_free_0 rfl (lv_at hl 0 rfl) ?_
  refine x_get (C := RX5) (T := TX5) (N := 3) (ci := 4) (v := .ref (a 0)) S kX5 rfl I 0 0 rfl (by decide) (by decide +kernel) rfl dX5_free_1 ?_
  obtain ⟨r2, hg1, hf⟩ := x_b1E hf
  refine x_cV (As := []) (rest := []) (st' := [.int r2]) (ws' := (wX5 cI cC cZ h a b d z q Fp Gp Fo Go Fz Gz Fq Gq)) S I (tX2_isFormula l D cI cC cZ (a 0) b d Fp Gp Fo Go r2 hg1) (cwV 0 S.2.2.2.2 gX5_free_X2_isFormula rfl rfl rfl (by decide +kernel) ⟨Nat.le_of_ble_eq_true rfl, Nat.le_of_ble_eq_true rfl⟩) 1 1 rfl rfl rfl [1, 2, 3, 4, 5, 6, 7, 8, 9, 10, 11, 12] [0, 13, 14, 15, 16, 17, 18, 19, 20, 21, 22, 23, 24, 25, 26] [0, 15, 16, 17, 18, 19, 20, 21, 22, 23, 24, 25, 26, 1, 2, 3, 4, 5, 6, 7, 8, 9, 10, 11, 12, 13, 14] rfl rfl rfl rfl (by decide) rfl rfl rfl hl rfl (Nat.le_of_ble_eq_true rfl) ⟨Nat.zero_le _, Nat.zero_le _⟩ rfl dX5_free_4 (fun H locs I => ?_)
  refine lv_if_eq (tgt := 23) S.1 S.2.1 dX5_free_7 (by decide) (fun c3 => ?_) (fun c3 => ?_)
  · replace hf := x_ifT hf c3
    refine lv_iconst (v := (-1)) S.1 S.2.1 dX5_free_23 (by decide) ?_
    exact x_ri E rfl rfl hf rfl I rfl dX5_free_24
  · replace hf := x_ifF hf c3
    refine lv_aload_n S.1 S.2.1 dX5_free_10 rfl (lv_at hl 0 rfl) ?_
    refine x_get (C := RX5) (T := TX5) (N := 3) (ci := 4) (v := .ref (a 0)) S kX5 rfl I 0 0 rfl (by decide) (by decide +kernel) rfl dX5_free_11 ?_
    refine x_getN (host := "ReversalCourt") (C := RX2) (T := TX2) (N := 6) (ci := 1) (v := .ref (b 0)) S kX2 rfl I 1 0 rfl (by decide) (by decide +kernel) rfl dX5_free_14 ?_
    obtain ⟨r5, hg4, hf⟩ := x_b1E hf
    refine x_cV (As := []) (rest := []) (st' := [.int r5]) (ws' := (wX5 cI cC cZ h a b d z q Fp Gp Fo Go Fz Gz Fq Gq)) S I (tX0_wholeFree l D cI cC cZ (b 0) d Fo Go r5 hg4) (cwV 0 S.2.2.2.2 gX5_free_X0_wholeFree rfl rfl rfl (by decide +kernel) ⟨Nat.le_of_ble_eq_true rfl, Nat.le_of_ble_eq_true rfl⟩) 3 0 rfl rfl rfl [3, 4, 5, 6, 7, 8, 9, 10, 11, 12] [0, 1, 2, 13, 14, 15, 16, 17, 18, 19, 20, 21, 22, 23, 24, 25, 26] [0, 1, 2, 17, 18, 19, 20, 21, 22, 23, 24, 25, 26, 3, 4, 5, 6, 7, 8, 9, 10, 11, 12, 13, 14, 15, 16] rfl rfl rfl rfl (by decide) rfl rfl rfl hl rfl (Nat.le_of_ble_eq_true rfl) ⟨Nat.zero_le _, Nat.zero_le _⟩ rfl dX5_free_17 (fun H locs I => ?_)
    refine lv_goto (tgt := 24) S.1 S.2.1 dX5_free_20 (by decide) ?_
    exact x_ri E rfl rfl hf rfl I rfl dX5_free_24
set_option maxHeartbeats 4000000 in
set_option maxRecDepth 100000 in
theorem tX5_open (l : Launch) (D : va_G) (cI cC cZ : ClassId) (h : Nat) (a b d z q : Nat → Nat) (Fp : xF) (Gp : xG) (Fo : xF) (Go : xG) (Fz : xF) (Gz : xG) (Fq : xF) (Gq : xG) (res : Int32) (hf : fX5_open Fz Gz = some res) : xC l yX5_open wsX5_open rmX5_open D [.ref h] (wX5 cI cC cZ h a b d z q Fp Gp Fo Go Fz Gz Fq Gq) (fun _ => (wX5 cI cC cZ h a b d z q Fp Gp Fo Go Fz Gz Fq Gq)) (xT cI cC cZ) (fun t => some (.int t)) res := by
  have kX5 : ∀ w ∈ u_ws RX5 TX5 3, w ∈ wsX5_open := by decide +kernel
  refine x_of (cc := cX5_open) (maxL := 1) (ret := (some .int)) (by decide) rfl (Nat.le_of_ble_eq_true rfl) ?_
  intro p e s m args below meth c A Q ls S I E hl
  replace hl : lv_has ls 1 [(0, .ref h)] := hl
  replace hf := (fX5_open_e _ _).symm.trans hf
  refine lv_aload_n S.1 S.2.1 dX5_open_0 rfl (lv_at hl 0 rfl) ?_
  refine x_get (C := RX5) (T := TX5) (N := 3) (ci := 4) (v := .ref (a 1)) S kX5 rfl I 0 1 rfl (by decide) (by decide +kernel) rfl dX5_open_1 ?_
  obtain ⟨r2, hg1, hf⟩ := x_b1E hf
  refine x_cV (As := []) (rest := []) (st' := [.int r2]) (ws' := (wX5 cI cC cZ h a b d z q Fp Gp Fo Go Fz Gz Fq Gq)) S I (tX4_openPairs l D cI cC cZ (a 1) z Fz Gz r2 hg1) (cwV 0 S.2.2.2.2 gX5_open_X4_openPairs rfl rfl rfl (by decide +kernel) ⟨Nat.le_of_ble_eq_true rfl, Nat.le_of_ble_eq_true rfl⟩) 13 3 rfl rfl rfl [13, 14, 15, 16, 17, 18, 19] [0, 1, 2, 3, 4, 5, 6, 7, 8, 9, 10, 11, 12, 20, 21, 22, 23, 24, 25, 26] [0, 1, 2, 3, 4, 5, 6, 7, 8, 9, 10, 11, 12, 20, 21, 22, 23, 24, 25, 26, 13, 14, 15, 16, 17, 18, 19] rfl rfl rfl rfl (by decide) rfl rfl rfl hl rfl (Nat.le_of_ble_eq_true rfl) ⟨Nat.zero_le _, Nat.zero_le _⟩ rfl dX5_open_4 (fun H locs I => ?_)
  exact x_ri E rfl rfl hf rfl I rfl dX5_open_7
