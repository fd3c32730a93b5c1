set_option maxHeartbeats 4000000 in
set_option maxRecDepth 100000 in
theorem tX6_pi (l : Launch) (D : va_G) (cI cC cZ : ClassId) (h : Nat) (a : Nat → Nat) (F : xF) (G : xG) (res : Int32 × xF × xG) (hf : fX6_pi F G = some res) : xC l yX6_pi wsX6_pi rmX6_pi D [.ref h] (wX6 cI cC cZ h a F G) (fun t => (wX6 cI cC cZ h a t.2.1 t.2.2)) (xT cI cC cZ) (fun t => some (.int t.1)) res := by
  have kX6 : ∀ w ∈ u_ws RX6 TX6 32, w ∈ wsX6_pi := by decide +kernel
  refine x_of (cc := cX6_pi) (maxL := 1) (ret := (some .int)) (by decide) rfl (Nat.le_of_ble_eq_true rfl) ?_
  intro p e s m args below meth c A Q ls S I E hl
  replace hl : lv_has ls 1 [(0, .ref h)] := hl
  replace hf := (fX6_pi_e _ _).symm.trans hf
  refine lv_aload_n S.1 S.2.1 dX6_pi_0 rfl (lv_at hl 0 rfl) ?_
  refine lv_iconst (v := 0) S.1 S.2.1 dX6_pi_1 (by decide) ?_
  refine x_put (C := RX6) (T := TX6) (N := 32) (ci := 5) (ws' := (wX6 cI cC cZ h a (va_up F 0 0) G)) S kX6 tyX6 tyX6_ok nmX6 rfl I 0 0 rfl (by decide) (by decide +kernel) rfl rfl (Nat.le_of_ble_eq_true rfl) rfl dX6_pi_2 (fun H locs I => ?_)
  refine lv_aload_n S.1 S.2.1 dX6_pi_5 rfl (lv_at hl 0 rfl) ?_
  obtain ⟨r2, F3, G4, hg1, hf⟩ := x_b3E hf
  refine x_cA (As := []) (rest := []) (st' := [.int r2]) (ws' := (wX6 cI cC cZ h a F3 G4)) S I (tX6_isFormula l D cI cC cZ h a (va_up F 0 0) G (r2, F3, G4) hg1) (cwV 0 S.2.2.2.2 gX6_pi_X6_isFormula rfl rfl rfl (by decide +kernel) ⟨Nat.le_of_ble_eq_true rfl, Nat.le_of_ble_eq_true rfl⟩) 0 5 rfl rfl rfl rfl hl rfl (Nat.le_of_ble_eq_true rfl) ⟨Nat.zero_le _, Nat.zero_le _⟩ rfl dX6_pi_6 (fun H locs I => ?_)
  refine lv_if_eq (tgt := 26) S.1 S.2.1 dX6_pi_9 (by decide) (fun c5 => ?_) (fun c5 => ?_)
  · replace hf := x_ifT hf c5
    refine lv_iconst (v := (-1)) S.1 S.2.1 dX6_pi_26 (by decide) ?_
    exact x_ri E rfl rfl hf rfl I rfl dX6_pi_27
  · replace hf := x_ifF hf c5
    refine lv_aload_n S.1 S.2.1 dX6_pi_12 rfl (lv_at hl 0 rfl) ?_
    refine x_get (C := RX6) (T := TX6) (N := 32) (ci := 5) (v := .ref (a 10)) S kX6 rfl I 0 10 rfl (by decide) (by decide +kernel) rfl dX6_pi_13 ?_
    refine lv_aload_n S.1 S.2.1 dX6_pi_16 rfl (lv_at hl 0 rfl) ?_
    refine x_get (C := RX6) (T := TX6) (N := 32) (ci := 5) (v := .int (F3 3)) S kX6 rfl I 0 3 rfl (by decide) (by decide +kernel) rfl dX6_pi_17 ?_
    refine lv_iconst (v := 1) S.1 S.2.1 dX6_pi_20 (by decide) ?_
    refine lv_isub S.1 S.2.1 dX6_pi_21 ?_
    obtain ⟨hi6, hf⟩ := x_ldE hf
    refine x_iald (f := (G4 10)) S I 8 0 rfl rfl hi6 dX6_pi_22 ?_
    refine lv_goto (tgt := 27) S.1 S.2.1 dX6_pi_23 (by decide) ?_
    exact x_ri E rfl rfl hf rfl I rfl dX6_pi_27
set_option maxHeartbeats 4000000 in
set_option maxRecDepth 100000 in
theorem tX6_free (l : Launch) (D : va_G) (cI cC cZ : ClassId) (h : Nat) (a : Nat → Nat) (F : xF) (G : xG) (res : Int32 × xF × xG) (hf : fX6_free F G = some res) : xC l yX6_free wsX6_free rmX6_free D [.ref h] (wX6 cI cC cZ h a F G) (fun t => (wX6 cI cC cZ h a t.2.1 t.2.2)) (xT cI cC cZ) (fun t => some (.int t.1)) res := by
  have kX6 : ∀ w ∈ u_ws RX6 TX6 32, w ∈ wsX6_free := by decide +kernel
  refine x_of (cc := cX6_free) (maxL := 1) (ret := (some .int)) (by decide) rfl (Nat.le_of_ble_eq_true rfl) ?_
  intro p e s m args below meth c A Q ls S I E hl
  replace hl : lv_has ls 1 [(0, .ref h)] := hl
  replace hf := (fX6_free_e _ _).symm.trans hf
  refine lv_aload_n S.1 S.2.1 dX6_free_0 rfl (lv_at hl 0 rfl) ?_
  refine lv_iconst (v := 0) S.1 S.2.1 dX6_free_1 (by decide) ?_
  refine x_put (C := RX6) (T := TX6) (N := 32) (ci := 5) (ws' := (wX6 cI cC cZ h a (va_up F 0 0) G)) S kX6 tyX6 tyX6_ok nmX6 rfl I 0 0 rfl (by decide) (by decide +kernel) rfl rfl (Nat.le_of_ble_eq_true rfl) rfl dX6_free_2 (fun H locs I => ?_)
  refine lv_aload_n S.1 S.2.1 dX6_free_5 rfl (lv_at hl 0 rfl) ?_
  obtain ⟨r2, F3, G4, hg1, hf⟩ := x_b3E hf
  refine x_cA (As := []) (rest := []) (st' := [.int r2]) (ws' := (wX6 cI cC cZ h a F3 G4)) S I (tX6_isFormula l D cI cC cZ h a (va_up F 0 0) G (r2, F3, G4) hg1) (cwV 0 S.2.2.2.2 gX6_free_X6_isFormula rfl rfl rfl (by decide +kernel) ⟨Nat.le_of_ble_eq_true rfl, Nat.le_of_ble_eq_true rfl⟩) 0 5 rfl rfl rfl rfl hl rfl (Nat.le_of_ble_eq_true rfl) ⟨Nat.zero_le _, Nat.zero_le _⟩ rfl dX6_free_6 (fun H locs I => ?_)
  refine lv_if_eq (tgt := 26) S.1 S.2.1 dX6_free_9 (by decide) (fun c5 => ?_) (fun c5 => ?_)
  · replace hf := x_ifT hf c5
    refine lv_iconst (v := (-1)) S.1 S.2.1 dX6_free_26 (by decide) ?_
    exact x_ri E rfl rfl hf rfl I rfl dX6_free_27
  · replace hf := x_ifF hf c5
    refine lv_aload_n S.1 S.2.1 dX6_free_12 rfl (lv_at hl 0 rfl) ?_
    refine x_get (C := RX6) (T := TX6) (N := 32) (ci := 5) (v := .ref (a 11)) S kX6 rfl I 0 11 rfl (by decide) (by decide +kernel) rfl dX6_free_13 ?_
    refine lv_aload_n S.1 S.2.1 dX6_free_16 rfl (lv_at hl 0 rfl) ?_
    refine x_get (C := RX6) (T := TX6) (N := 32) (ci := 5) (v := .int (F3 3)) S kX6 rfl I 0 3 rfl (by decide) (by decide +kernel) rfl dX6_free_17 ?_
    refine lv_iconst (v := 1) S.1 S.2.1 dX6_free_20 (by decide) ?_
    refine lv_isub S.1 S.2.1 dX6_free_21 ?_
    obtain ⟨hi6, hf⟩ := x_ldE hf
    refine x_iald (f := (G4 11)) S I 9 0 rfl rfl hi6 dX6_free_22 ?_
    refine lv_goto (tgt := 27) S.1 S.2.1 dX6_free_23 (by decide) ?_
    exact x_ri E rfl rfl hf rfl I rfl dX6_free_27
set_option maxHeartbeats 4000000 in
set_option maxRecDepth 100000 in
theorem tX6_power (l : Launch) (D : va_G) (cI cC cZ : ClassId) (p1 : Int32) (res : Int32) (hf : fX6_power p1 = some res) : xC l yX6_power wsX6_power rmX6_power D [.int p1] [] (fun _ => []) (xT cI cC cZ) (fun t => some (.int t)) res := by
  refine x_of (cc := cX6_power) (maxL := 1) (ret := (some .int)) (by decide) rfl (Nat.le_of_ble_eq_true rfl) ?_
  intro p e s m args below meth c A Q ls S I E hl
  replace hl : lv_has ls 1 [(0, .int p1)] := hl
  replace hf := (fX6_power_e _).symm.trans hf
  refine lv_iload_n S.1 S.2.1 dX6_power_0 rfl (lv_at hl 0 rfl) ?_
  refine lv_if_ne (tgt := 8) S.1 S.2.1 dX6_power_1 (by decide) (fun c1 => ?_) (fun c1 => ?_)
  · replace hf := x_ifF hf c1
    refine lv_iload_n S.1 S.2.1 dX6_power_8 rfl (lv_at hl 0 rfl) ?_
    refine lv_iconst (v := 1) S.1 S.2.1 dX6_power_9 (by decide) ?_
    refine lv_icmp_ne (tgt := 17) S.1 S.2.1 dX6_power_10 (by decide) (fun c2 => ?_) (fun c2 => ?_)
    · replace hf := x_ifF hf c2
      refine lv_bipush (v := 25) S.1 S.2.1 dX6_power_17 (by decide) ?_
      exact x_ri E rfl rfl hf rfl I rfl dX6_power_19
    · replace hf := x_ifT hf c2
      refine lv_iconst (v := 5) S.1 S.2.1 dX6_power_13 (by decide) ?_
      refine lv_goto (tgt := 19) S.1 S.2.1 dX6_power_14 (by decide) ?_
      exact x_ri E rfl rfl hf rfl I rfl dX6_power_19
  · replace hf := x_ifT hf c1
    refine lv_iconst (v := 1) S.1 S.2.1 dX6_power_4 (by decide) ?_
    refine lv_goto (tgt := 19) S.1 S.2.1 dX6_power_5 (by decide) ?_
    exact x_ri E rfl rfl hf rfl I rfl dX6_power_19
set_option maxHeartbeats 4000000 in
set_option maxRecDepth 100000 in
theorem tX6_numberAt (l : Launch) (D : va_G) (cI cC cZ : ClassId) (p1 p2 : Int32) (res : Int32) (hf : fX6_numberAt p1 p2 = some res) : xC l yX6_numberAt wsX6_numberAt rmX6_numberAt D [.int p1, .int p2] [] (fun _ => []) (xT cI cC cZ) (fun t => some (.int t)) res := by
  refine x_of (cc := cX6_numberAt) (maxL := 2) (ret := (some .int)) (by decide) rfl (Nat.le_of_ble_eq_true rfl) ?_
  intro p e s m args below meth c A Q ls S I E hl
  replace hl : lv_has ls 2 [(0, .int p1), (1, .int p2)] := hl
  replace hf := (fX6_numberAt_e _ _).symm.trans hf
  refine lv_iload_n S.1 S.2.1 dX6_numberAt_0 rfl (lv_at hl 0 rfl) ?_
  refine lv_iload_n S.1 S.2.1 dX6_numberAt_1 rfl (lv_at hl 1 rfl) ?_
  obtain ⟨r2, hg1, hf⟩ := x_b1E hf
  refine x_c0 (As := [.int p2]) (rest := [.int p1]) (st' := [.int r2, .int p1]) S I rfl (tX6_power l D cI cC cZ p2 r2 hg1) (va_cwS 1 S.2.2.2.2 gX6_numberAt_X6_power rfl rfl rfl (by decide +kernel) ⟨Nat.le_of_ble_eq_true rfl, Nat.le_of_ble_eq_true rfl⟩) hl rfl (Nat.le_of_ble_eq_true rfl) ⟨Nat.zero_le _, Nat.zero_le _⟩ rfl dX6_numberAt_2 (fun H locs I => ?_)
  obtain ⟨hz3, hf⟩ := x_dvE hf
  refine lv_idiv S.1 S.2.1 dX6_numberAt_5 hz3 ?_
  refine lv_iconst (v := 5) S.1 S.2.1 dX6_numberAt_6 (by decide) ?_
  obtain ⟨hz4, hf⟩ := x_dvE hf
  refine lv_irem S.1 S.2.1 dX6_numberAt_7 hz4 ?_
  exact x_ri E rfl rfl hf rfl I rfl dX6_numberAt_8
set_option maxHeartbeats 4000000 in
set_option maxRecDepth 100000 in
theorem tX6_isSoFor (l : Launch) (D : va_G) (cI cC cZ : ClassId) (h : Nat) (a : Nat → Nat) (F : xF) (G : xG) (p1 p2 p3 : Int32) (res : Int32) (hf : fX6_isSoFor G p1 p2 p3 = some res) : xC l yX6_isSoFor wsX6_isSoFor rmX6_isSoFor D [.ref h, .int p1, .int p2, .int p3] (wX6 cI cC cZ h a F G) (fun _ => (wX6 cI cC cZ h a F G)) (xT cI cC cZ) (fun t => some (.int t)) res := by
  have kX6 : ∀ w ∈ u_ws RX6 TX6 32, w ∈ wsX6_isSoFor := by decide +kernel
  refine x_of (cc := cX6_isSoFor) (maxL := 10) (ret := (some .boolean)) (by decide) rfl (Nat.le_of_ble_eq_true rfl) ?_
  intro p e s m args below meth c A Q ls S I E hl
  replace hl : lv_has ls 10 [(0, .ref h), (1, .int p1), (2, .int p2), (3, .int p3)] := hl
  replace hf := (fX6_isSoFor_e _ _ _ _).symm.trans hf
  refine lv_aload_n S.1 S.2.1 dX6_isSoFor_0 rfl (lv_at hl 0 rfl) ?_
  refine x_get (C := RX6) (T := TX6) (N := 32) (ci := 5) (v := .ref (a 4)) S kX6 rfl I 0 4 rfl (by decide) (by decide +kernel) rfl dX6_isSoFor_1 ?_
  refine lv_iload_n S.1 S.2.1 dX6_isSoFor_4 rfl (lv_at hl 1 rfl) ?_
  obtain ⟨hi1, hf⟩ := x_ldE hf
  refine x_iald (f := (G 4)) S I 2 0 rfl rfl hi1 dX6_isSoFor_5 ?_
  refine lv_bipush (v := 6) S.1 S.2.1 dX6_isSoFor_6 (by decide) ?_
  have hj27 : ∀ (v2 : Int32) (H : Heap) (locs : List Loc) (ls : Array Slot), (fX6_isSoFor_j27 G p1 p2 p3) v2 = some res → xI D A s (wX6 cI cC cZ h a F G) (xT cI cC cZ) H locs → lv_has ls 10 [(0, .ref h), (1, .int p1), (2, .int p2), (3, .int p3)] → W p l e (headSpec wsX6_isSoFor rmX6_isSoFor).room s m args below meth c H locs 0 0 Q (F0 m 27 ls [.int v2]) := by
    intro v2 H locs ls hf I hl
    replace hf := (fX6_isSoFor_j27_e _ _ _ _ _).symm.trans hf
    refine lv_istore (lv' := [(4, .int v2), (0, .ref h), (1, .int p1), (2, .int p2), (3, .int p3)]) S.1 S.2.1 dX6_isSoFor_27 hl (by decide) rfl (fun ls hl => ?_)
    refine lv_aload_n S.1 S.2.1 dX6_isSoFor_29 rfl (lv_at hl 1 rfl) ?_
    refine x_get (C := RX6) (T := TX6) (N := 32) (ci := 5) (v := .ref (a 4)) S kX6 rfl I 0 4 rfl (by decide) (by decide +kernel) rfl dX6_isSoFor_30 ?_
    refine lv_iload_n S.1 S.2.1 dX6_isSoFor_33 rfl (lv_at hl 2 rfl) ?_
    obtain ⟨hi3, hf⟩ := x_ldE hf
    refine x_iald (f := (G 4)) S I 2 0 rfl rfl hi3 dX6_isSoFor_34 ?_
    refine lv_bipush (v := 8) S.1 S.2.1 dX6_isSoFor_35 (by decide) ?_
    have hj54 : ∀ (v4 : Int32) (H : Heap) (locs : List Loc) (ls : Array Slot), (fX6_isSoFor_j54 G p1 p2 v2) v4 = some res → xI D A s (wX6 cI cC cZ h a F G) (xT cI cC cZ) H locs → lv_has ls 10 [(4, .int v2), (0, .ref h), (1, .int p1), (2, .int p2)] → W p l e (headSpec wsX6_isSoFor rmX6_isSoFor).room s m args below meth c H locs 0 0 Q (F0 m 54 ls [.int v4]) := by
      intro v4 H locs ls hf I hl
      replace hf := (fX6_isSoFor_j54_e _ _ _ _ _).symm.trans hf
      refine lv_istore (lv' := [(5, .int v4), (4, .int v2), (0, .ref h), (1, .int p1), (2, .int p2)]) S.1 S.2.1 dX6_isSoFor_54 hl (by decide) rfl (fun ls hl => ?_)
      refine lv_iload_n S.1 S.2.1 dX6_isSoFor_56 rfl (lv_at hl 4 rfl) ?_
      refine lv_iload_n S.1 S.2.1 dX6_isSoFor_57 rfl (lv_at hl 4 rfl) ?_
      refine lv_aload_n S.1 S.2.1 dX6_isSoFor_58 rfl (lv_at hl 2 rfl) ?_
      refine x_get (C := RX6) (T := TX6) (N := 32) (ci := 5) (v := .ref (a 7)) S kX6 rfl I 0 7 rfl (by decide) (by decide +kernel) rfl dX6_isSoFor_59 ?_
      refine lv_iload_n S.1 S.2.1 dX6_isSoFor_62 rfl (lv_at hl 3 rfl) ?_
      obtain ⟨hi5, hf⟩ := x_ldE hf
      refine x_iald (f := (G 7)) S I 5 0 rfl rfl hi5 dX6_isSoFor_63 ?_
      obtain ⟨r7, hg6, hf⟩ := x_b1E hf
      refine x_c0 (As := [.int p2, .int ((G 7) p1.toNatClampNeg)]) (rest := [.int p2]) (st' := [.int r7, .int p2]) S I rfl (tX6_numberAt l D cI cC cZ p2 ((G 7) p1.toNatClampNeg) r7 hg6) (va_cwS 2 S.2.2.2.2 gX6_isSoFor_X6_numberAt rfl rfl rfl (by decide +kernel) ⟨Nat.le_of_ble_eq_true rfl, Nat.le_of_ble_eq_true rfl⟩) hl rfl (Nat.le_of_ble_eq_true rfl) ⟨Nat.zero_le _, Nat.zero_le _⟩ rfl dX6_isSoFor_64 (fun H locs I => ?_)
      refine lv_aload_n S.1 S.2.1 dX6_isSoFor_67 rfl (lv_at hl 2 rfl) ?_
      refine x_get (C := RX6) (T := TX6) (N := 32) (ci := 5) (v := .ref (a 7)) S kX6 rfl I 0 7 rfl (by decide) (by decide +kernel) rfl dX6_isSoFor_68 ?_
      refine lv_iload_n S.1 S.2.1 dX6_isSoFor_71 rfl (lv_at hl 3 rfl) ?_
      obtain ⟨hi8, hf⟩ := x_ldE hf
      refine x_iald (f := (G 7)) S I 5 0 rfl rfl hi8 dX6_isSoFor_72 ?_
      obtain ⟨r10, hg9, hf⟩ := x_b1E hf
      refine x_c0 (As := [.int ((G 7) p1.toNatClampNeg)]) (rest := [.int r7, .int p2]) (st' := [.int r10, .int r7, .int p2]) S I rfl (tX6_power l D cI cC cZ ((G 7) p1.toNatClampNeg) r10 hg9) (va_cwS 1 S.2.2.2.2 gX6_isSoFor_X6_power rfl rfl rfl (by decide +kernel) ⟨Nat.le_of_ble_eq_true rfl, Nat.le_of_ble_eq_true rfl⟩) hl rfl (Nat.le_of_ble_eq_true rfl) ⟨Nat.zero_le _, Nat.zero_le _⟩ rfl dX6_isSoFor_73 (fun H locs I => ?_)
      refine lv_imul S.1 S.2.1 dX6_isSoFor_76 ?_
      refine lv_isub S.1 S.2.1 dX6_isSoFor_77 ?_
      refine lv_istore (lv' := [(6, .int (p2 - (r7 * r10))), (5, .int v4), (4, .int v2), (0, .ref h), (1, .int p1), (2, .int p2)]) S.1 S.2.1 dX6_isSoFor_78 hl (by decide) rfl (fun ls hl => ?_)
      refine lv_iload S.1 S.2.1 dX6_isSoFor_80 (lv_at hl 2 rfl) ?_
      refine lv_istore (lv' := [(7, .int v2), (6, .int (p2 - (r7 * r10))), (5, .int v4), (4, .int v2), (0, .ref h), (1, .int p1), (2, .int p2)]) S.1 S.2.1 dX6_isSoFor_82 hl (by decide) rfl (fun ls hl => ?_)
      refine lv_iconst (v := 0) S.1 S.2.1 dX6_isSoFor_84 (by decide) ?_
      refine lv_istore (lv' := [(8, .int 0), (7, .int v2), (6, .int (p2 - (r7 * r10))), (5, .int v4), (4, .int v2), (0, .ref h), (1, .int p1), (2, .int p2)]) S.1 S.2.1 dX6_isSoFor_85 hl (by decide) rfl (fun ls hl => ?_)
      have hl87 : ∀ (n87 : Nat), ∀ (v11 : Int32) (v12 : Int32) (H : Heap) (locs : List Loc) (ls : Array Slot), (fX6_isSoFor_l87 G v4 p1 p2 r7 r10 v2 n87) v11 v12 = some res → xI D A s (wX6 cI cC cZ h a F G) (xT cI cC cZ) H locs → lv_has ls 10 [(8, .int v12), (7, .int v11), (6, .int (p2 - (r7 * r10))), (5, .int v4), (4, .int v2), (0, .ref h), (1, .int p1)] → W p l e (headSpec wsX6_isSoFor rmX6_isSoFor).room s m args below meth c H locs 0 0 Q (F0 m 87 ls []) := by
        intro n87
        induction n87 with
        | zero =>
          intro v11 v12 H locs ls hf I hl
          cases (fX6_isSoFor_l87_z _ _ _ _ _ _ _ _ _).symm.trans hf
        | succ n87 ih87 =>
          intro v11 v12 H locs ls hf I hl
          replace hf := (fX6_isSoFor_l87_e _ _ _ _ _ _ _ _ _ _).symm.trans hf
          refine lv_iload S.1 S.2.1 dX6_isSoFor_87 (lv_at hl 0 rfl) ?_
          refine lv_iload S.1 S.2.1 dX6_isSoFor_89 (lv_at hl 3 rfl) ?_
          refine lv_icmp_ge (tgt := 172) S.1 S.2.1 dX6_isSoFor_91 (by decide) (fun c13 => ?_) (fun c13 => ?_)
          · replace hf := x_ifT hf c13
            refine lv_iload S.1 S.2.1 dX6_isSoFor_172 (lv_at hl 1 rfl) ?_
            exact x_ri E rfl rfl hf rfl I rfl dX6_isSoFor_174
          · replace hf := x_ifF hf c13
            refine lv_aload_n S.1 S.2.1 dX6_isSoFor_94 rfl (lv_at hl 5 rfl) ?_
            refine x_get (C := RX6) (T := TX6) (N := 32) (ci := 5) (v := .ref (a 17)) S kX6 rfl I 0 17 rfl (by decide) (by decide +kernel) rfl dX6_isSoFor_95 ?_
            refine lv_bipush (v := 125) S.1 S.2.1 dX6_isSoFor_98 (by decide) ?_
            refine lv_aload_n S.1 S.2.1 dX6_isSoFor_100 rfl (lv_at hl 5 rfl) ?_
            refine x_get (C := RX6) (T := TX6) (N := 32) (ci := 5) (v := .ref (a 5)) S kX6 rfl I 0 5 rfl (by decide) (by decide +kernel) rfl dX6_isSoFor_101 ?_
            refine lv_iload_n S.1 S.2.1 dX6_isSoFor_104 rfl (lv_at hl 6 rfl) ?_
            obtain ⟨hi14, hf⟩ := x_ldE hf
            refine x_iald (f := (G 5)) S I 3 0 rfl rfl hi14 dX6_isSoFor_105 ?_
            refine lv_imul S.1 S.2.1 dX6_isSoFor_106 ?_
            refine lv_iload S.1 S.2.1 dX6_isSoFor_107 (lv_at hl 2 rfl) ?_
            refine lv_iadd S.1 S.2.1 dX6_isSoFor_109 ?_
            refine lv_iload S.1 S.2.1 dX6_isSoFor_110 (lv_at hl 0 rfl) ?_
            refine lv_aload_n S.1 S.2.1 dX6_isSoFor_112 rfl (lv_at hl 5 rfl) ?_
            refine x_get (C := RX6) (T := TX6) (N := 32) (ci := 5) (v := .ref (a 7)) S kX6 rfl I 0 7 rfl (by decide) (by decide +kernel) rfl dX6_isSoFor_113 ?_
            refine lv_iload_n S.1 S.2.1 dX6_isSoFor_116 rfl (lv_at hl 6 rfl) ?_
            obtain ⟨hi15, hf⟩ := x_ldE hf
            refine x_iald (f := (G 7)) S I 5 0 rfl rfl hi15 dX6_isSoFor_117 ?_
            obtain ⟨r17, hg16, hf⟩ := x_b1E hf
            refine x_c0 (As := [.int ((G 7) p1.toNatClampNeg)]) (rest := [.int v12, .int ((125 * ((G 5) p1.toNatClampNeg)) + (p2 - (r7 * r10))), .ref (a 17)]) (st' := [.int r17, .int v12, .int ((125 * ((G 5) p1.toNatClampNeg)) + (p2 - (r7 * r10))), .ref (a 17)]) S I rfl (tX6_power l D cI cC cZ ((G 7) p1.toNatClampNeg) r17 hg16) (va_cwS 1 S.2.2.2.2 gX6_isSoFor_X6_power rfl rfl rfl (by decide +kernel) ⟨Nat.le_of_ble_eq_true rfl, Nat.le_of_ble_eq_true rfl⟩) hl rfl (Nat.le_of_ble_eq_true rfl) ⟨Nat.zero_le _, Nat.zero_le _⟩ rfl dX6_isSoFor_118 (fun H locs I => ?_)
            refine lv_imul S.1 S.2.1 dX6_isSoFor_121 ?_
            refine lv_iadd S.1 S.2.1 dX6_isSoFor_122 ?_
            obtain ⟨hi18, hf⟩ := x_ldE hf
            refine x_zald (f := (G 17)) S I 13 2 rfl rfl hi18 dX6_isSoFor_123 ?_
            refine lv_istore (lv' := [(9, .int ((G 17) (((125 * ((G 5) p1.toNatClampNeg)) + (p2 - (r7 * r10))) + (v12 * r17)).toNatClampNeg)), (8, .int v12), (7, .int v11), (6, .int (p2 - (r7 * r10))), (5, .int v4), (4, .int v2), (0, .ref h), (1, .int p1)]) S.1 S.2.1 dX6_isSoFor_124 hl (by decide) rfl (fun ls hl => ?_)
            refine lv_iload S.1 S.2.1 dX6_isSoFor_126 (lv_at hl 5 rfl) ?_
            have hj164 : ∀ (v19 : Int32) (H : Heap) (locs : List Loc) (ls : Array Slot), (fX6_isSoFor_j164 (fX6_isSoFor_l87 G v4 p1 p2 r7 r10 v2 n87) v12) v19 = some res → xI D A s (wX6 cI cC cZ h a F G) (xT cI cC cZ) H locs → lv_has ls 10 [(8, .int v12), (6, .int (p2 - (r7 * r10))), (5, .int v4), (4, .int v2), (0, .ref h), (1, .int p1)] → W p l e (headSpec wsX6_isSoFor rmX6_isSoFor).room s m args below meth c H locs 0 0 Q (F0 m 164 ls [.int v19]) := by
              intro v19 H locs ls hf I hl
              replace hf := (fX6_isSoFor_j164_e _ _ _).symm.trans hf
              refine lv_istore (lv' := [(7, .int v19), (8, .int v12), (6, .int (p2 - (r7 * r10))), (5, .int v4), (4, .int v2), (0, .ref h), (1, .int p1)]) S.1 S.2.1 dX6_isSoFor_164 hl (by decide) rfl (fun ls hl => ?_)
              refine lv_iinc (v := (v12 + 1)) (lv' := [(8, .int (v12 + 1)), (7, .int v19), (6, .int (p2 - (r7 * r10))), (5, .int v4), (4, .int v2), (0, .ref h), (1, .int p1)]) S.1 S.2.1 dX6_isSoFor_166 hl (k := 1) rfl rfl (by decide) rfl (fun ls hl => ?_)
              refine lv_goto (tgt := 87) S.1 S.2.1 dX6_isSoFor_169 (by decide) ?_
              exact ih87 v19 (v12 + 1) _ _ _ hf I (lv_sub hl [0, 1, 2, 3, 4, 5, 6] rfl)
            refine lv_if_eq (tgt := 149) S.1 S.2.1 dX6_isSoFor_128 (by decide) (fun c20 => ?_) (fun c20 => ?_)
            · replace hf := x_ifT hf c20
              refine lv_iload S.1 S.2.1 dX6_isSoFor_149 (lv_at hl 2 rfl) ?_
              have hj159 : ∀  (H : Heap) (locs : List Loc) (ls : Array Slot), (fX6_isSoFor_j159 (fX6_isSoFor_l87 G v4 p1 p2 r7 r10 v2 n87) v12) = some res → xI D A s (wX6 cI cC cZ h a F G) (xT cI cC cZ) H locs → lv_has ls 10 [(8, .int v12), (6, .int (p2 - (r7 * r10))), (5, .int v4), (4, .int v2), (0, .ref h), (1, .int p1)] → W p l e (headSpec wsX6_isSoFor rmX6_isSoFor).room s m args below meth c H locs 0 0 Q (F0 m 159 ls []) := by
                intro  H locs ls hf I hl
                replace hf := (fX6_isSoFor_j159_e _ _).symm.trans hf
                refine lv_iconst (v := 1) S.1 S.2.1 dX6_isSoFor_159 (by decide) ?_
                refine lv_goto (tgt := 164) S.1 S.2.1 dX6_isSoFor_160 (by decide) ?_
                exact hj164 1 _ _ _ hf I (lv_sub hl [0, 1, 2, 3, 4, 5] rfl)
              refine lv_if_ne (tgt := 159) S.1 S.2.1 dX6_isSoFor_151 (by decide) (fun c21 => ?_) (fun c21 => ?_)
              · replace hf := x_ifF hf c21
                exact hj159 _ _ _ hf I (lv_sub hl [1, 3, 4, 5, 6, 7] rfl)
              · replace hf := x_ifT hf c21
                refine lv_iload S.1 S.2.1 dX6_isSoFor_154 (lv_at hl 0 rfl) ?_
                refine lv_if_eq (tgt := 163) S.1 S.2.1 dX6_isSoFor_156 (by decide) (fun c22 => ?_) (fun c22 => ?_)
                · replace hf := x_ifT hf c22
                  refine lv_iconst (v := 0) S.1 S.2.1 dX6_isSoFor_163 (by decide) ?_
                  exact hj164 0 _ _ _ hf I (lv_sub hl [1, 3, 4, 5, 6, 7] rfl)
                · replace hf := x_ifF hf c22
                  exact hj159 _ _ _ hf I (lv_sub hl [1, 3, 4, 5, 6, 7] rfl)
            · replace hf := x_ifF hf c20
              refine lv_iload S.1 S.2.1 dX6_isSoFor_131 (lv_at hl 2 rfl) ?_
              have hj145 : ∀  (H : Heap) (locs : List Loc) (ls : Array Slot), (fX6_isSoFor_j145 (fX6_isSoFor_l87 G v4 p1 p2 r7 r10 v2 n87) v12) = some res → xI D A s (wX6 cI cC cZ h a F G) (xT cI cC cZ) H locs → lv_has ls 10 [(8, .int v12), (6, .int (p2 - (r7 * r10))), (5, .int v4), (4, .int v2), (0, .ref h), (1, .int p1)] → W p l e (headSpec wsX6_isSoFor rmX6_isSoFor).room s m args below meth c H locs 0 0 Q (F0 m 145 ls []) := by
                intro  H locs ls hf I hl
                replace hf := (fX6_isSoFor_j145_e _ _).symm.trans hf
                refine lv_iconst (v := 0) S.1 S.2.1 dX6_isSoFor_145 (by decide) ?_
                refine lv_goto (tgt := 164) S.1 S.2.1 dX6_isSoFor_146 (by decide) ?_
                exact hj164 0 _ _ _ hf I (lv_sub hl [0, 1, 2, 3, 4, 5] rfl)
              refine lv_if_eq (tgt := 145) S.1 S.2.1 dX6_isSoFor_133 (by decide) (fun c23 => ?_) (fun c23 => ?_)
              · replace hf := x_ifT hf c23
                exact hj145 _ _ _ hf I (lv_sub hl [1, 3, 4, 5, 6, 7] rfl)
              · replace hf := x_ifF hf c23
                refine lv_iload S.1 S.2.1 dX6_isSoFor_136 (lv_at hl 0 rfl) ?_
                refine lv_if_eq (tgt := 145) S.1 S.2.1 dX6_isSoFor_138 (by decide) (fun c24 => ?_) (fun c24 => ?_)
                · replace hf := x_ifT hf c24
                  exact hj145 _ _ _ hf I (lv_sub hl [1, 3, 4, 5, 6, 7] rfl)
                · replace hf := x_ifF hf c24
                  refine lv_iconst (v := 1) S.1 S.2.1 dX6_isSoFor_141 (by decide) ?_
                  refine lv_goto (tgt := 164) S.1 S.2.1 dX6_isSoFor_142 (by decide) ?_
                  exact hj164 1 _ _ _ hf I (lv_sub hl [1, 3, 4, 5, 6, 7] rfl)
      exact hl87 4096 v2 0 _ _ _ hf I (lv_sub hl [0, 1, 2, 3, 4, 5, 6] rfl)
    refine lv_icmp_ge (tgt := 44) S.1 S.2.1 dX6_isSoFor_37 (by decide) (fun c25 => ?_) (fun c25 => ?_)
    · replace hf := x_ifT hf c25
      refine lv_iload_n S.1 S.2.1 dX6_isSoFor_44 rfl (lv_at hl 3 rfl) ?_
      refine lv_aload_n S.1 S.2.1 dX6_isSoFor_45 rfl (lv_at hl 1 rfl) ?_
      refine x_get (C := RX6) (T := TX6) (N := 32) (ci := 5) (v := .ref (a 8)) S kX6 rfl I 0 8 rfl (by decide) (by decide +kernel) rfl dX6_isSoFor_46 ?_
      refine lv_iload_n S.1 S.2.1 dX6_isSoFor_49 rfl (lv_at hl 2 rfl) ?_
      obtain ⟨hi26, hf⟩ := x_ldE hf
      refine x_iald (f := (G 8)) S I 6 0 rfl rfl hi26 dX6_isSoFor_50 ?_
      obtain ⟨r28, hg27, hf⟩ := x_b1E hf
      refine x_c0 (As := [.int p2, .int ((G 8) p1.toNatClampNeg)]) (rest := []) (st' := [.int r28]) S I rfl (tX6_numberAt l D cI cC cZ p2 ((G 8) p1.toNatClampNeg) r28 hg27) (va_cwS 2 S.2.2.2.2 gX6_isSoFor_X6_numberAt rfl rfl rfl (by decide +kernel) ⟨Nat.le_of_ble_eq_true rfl, Nat.le_of_ble_eq_true rfl⟩) hl rfl (Nat.le_of_ble_eq_true rfl) ⟨Nat.zero_le _, Nat.zero_le _⟩ rfl dX6_isSoFor_51 (fun H locs I => ?_)
      exact hj54 r28 _ _ _ hf I (lv_sub hl [0, 1, 2, 3] rfl)
    · replace hf := x_ifF hf c25
      refine lv_iload_n S.1 S.2.1 dX6_isSoFor_40 rfl (lv_at hl 4 rfl) ?_
      refine lv_goto (tgt := 54) S.1 S.2.1 dX6_isSoFor_41 (by decide) ?_
      exact hj54 p3 _ _ _ hf I (lv_sub hl [0, 1, 2, 3] rfl)
  have hj22 : ∀  (H : Heap) (locs : List Loc) (ls : Array Slot), (fX6_isSoFor_j22 G p1 p2 p3) = some res → xI D A s (wX6 cI cC cZ h a F G) (xT cI cC cZ) H locs → lv_has ls 10 [(0, .ref h), (1, .int p1), (2, .int p2), (3, .int p3)] → W p l e (headSpec wsX6_isSoFor rmX6_isSoFor).room s m args below meth c H locs 0 0 Q (F0 m 22 ls []) := by
    intro  H locs ls hf I hl
    replace hf := (fX6_isSoFor_j22_e _ _ _ _).symm.trans hf
    refine lv_iconst (v := 1) S.1 S.2.1 dX6_isSoFor_22 (by decide) ?_
    refine lv_goto (tgt := 27) S.1 S.2.1 dX6_isSoFor_23 (by decide) ?_
    exact hj27 1 _ _ _ hf I (lv_sub hl [0, 1, 2, 3] rfl)
  refine lv_icmp_eq (tgt := 22) S.1 S.2.1 dX6_isSoFor_8 (by decide) (fun c29 => ?_) (fun c29 => ?_)
  · replace hf := x_ifT hf c29
    exact hj22 _ _ _ hf I (lv_sub hl [0, 1, 2, 3] rfl)
  · replace hf := x_ifF hf c29
    refine lv_aload_n S.1 S.2.1 dX6_isSoFor_11 rfl (lv_at hl 0 rfl) ?_
    refine x_get (C := RX6) (T := TX6) (N := 32) (ci := 5) (v := .ref (a 4)) S kX6 rfl I 0 4 rfl (by decide) (by decide +kernel) rfl dX6_isSoFor_12 ?_
    refine lv_iload_n S.1 S.2.1 dX6_isSoFor_15 rfl (lv_at hl 1 rfl) ?_
    obtain ⟨hi30, hf⟩ := x_ldE hf
    refine x_iald (f := (G 4)) S I 2 0 rfl rfl hi30 dX6_isSoFor_16 ?_
    refine lv_bipush (v := 8) S.1 S.2.1 dX6_isSoFor_17 (by decide) ?_
    refine lv_icmp_ne (tgt := 26) S.1 S.2.1 dX6_isSoFor_19 (by decide) (fun c31 => ?_) (fun c31 => ?_)
    · replace hf := x_ifF hf c31
      refine lv_iconst (v := 0) S.1 S.2.1 dX6_isSoFor_26 (by decide) ?_
      exact hj27 0 _ _ _ hf I (lv_sub hl [0, 1, 2, 3] rfl)
    · replace hf := x_ifT hf c31
      exact hj22 _ _ _ hf I (lv_sub hl [0, 1, 2, 3] rfl)
set_option maxHeartbeats 4000000 in
set_option maxRecDepth 100000 in
theorem tX6_isPartSo (l : Launch) (D : va_G) (cI cC cZ : ClassId) (h : Nat) (a : Nat → Nat) (F : xF) (G : xG) (p1 p2 p3 : Int32) (res : Int32) (hf : fX6_isPartSo G p1 p2 p3 = some res) : xC l yX6_isPartSo wsX6_isPartSo rmX6_isPartSo D [.ref h, .int p1, .int p2, .int p3] (wX6 cI cC cZ h a F G) (fun _ => (wX6 cI cC cZ h a F G)) (xT cI cC cZ) (fun t => some (.int t)) res := by
  have kX6 : ∀ w ∈ u_ws RX6 TX6 32, w ∈ wsX6_isPartSo := by decide +kernel
  refine x_of (cc := cX6_isPartSo) (maxL := 6) (ret := (some .boolean)) (by decide) rfl (Nat.le_of_ble_eq_true rfl) ?_
  intro p e s m args below meth c A Q ls S I E hl
  replace hl : lv_has ls 6 [(0, .ref h), (1, .int p1), (2, .int p2), (3, .int p3)] := hl
  replace hf := (fX6_isPartSo_e _ _ _ _).symm.trans hf
  refine lv_aload_n S.1 S.2.1 dX6_isPartSo_0 rfl (lv_at hl 0 rfl) ?_
  refine x_get (C := RX6) (T := TX6) (N := 32) (ci := 5) (v := .ref (a 5)) S kX6 rfl I 0 5 rfl (by decide) (by decide +kernel) rfl dX6_isPartSo_1 ?_
  refine lv_iload_n S.1 S.2.1 dX6_isPartSo_4 rfl (lv_at hl 1 rfl) ?_
  obtain ⟨hi1, hf⟩ := x_ldE hf
  refine x_iald (f := (G 5)) S I 3 0 rfl rfl hi1 dX6_isPartSo_5 ?_
  refine lv_iconst (v := (-1)) S.1 S.2.1 dX6_isPartSo_6 (by decide) ?_
  have hj34 : ∀ (v2 : Int32) (H : Heap) (locs : List Loc) (ls : Array Slot), (fX6_isPartSo_j34 G p1 p2 p3) v2 = some res → xI D A s (wX6 cI cC cZ h a F G) (xT cI cC cZ) H locs → lv_has ls 6 [(0, .ref h), (1, .int p1), (2, .int p2), (3, .int p3)] → W p l e (headSpec wsX6_isPartSo rmX6_isPartSo).room s m args below meth c H locs 0 0 Q (F0 m 34 ls [.int v2]) := by
    intro v2 H locs ls hf I hl
    replace hf := (fX6_isPartSo_j34_e _ _ _ _ _).symm.trans hf
    refine lv_istore (lv' := [(4, .int v2), (0, .ref h), (1, .int p1), (2, .int p2), (3, .int p3)]) S.1 S.2.1 dX6_isPartSo_34 hl (by decide) rfl (fun ls hl => ?_)
    refine lv_aload_n S.1 S.2.1 dX6_isPartSo_36 rfl (lv_at hl 1 rfl) ?_
    refine x_get (C := RX6) (T := TX6) (N := 32) (ci := 5) (v := .ref (a 6)) S kX6 rfl I 0 6 rfl (by decide) (by decide +kernel) rfl dX6_isPartSo_37 ?_
    refine lv_iload_n S.1 S.2.1 dX6_isPartSo_40 rfl (lv_at hl 2 rfl) ?_
    obtain ⟨hi3, hf⟩ := x_ldE hf
    refine x_iald (f := (G 6)) S I 4 0 rfl rfl hi3 dX6_isPartSo_41 ?_
    refine lv_iconst (v := (-1)) S.1 S.2.1 dX6_isPartSo_42 (by decide) ?_
    have hj70 : ∀ (v4 : Int32) (H : Heap) (locs : List Loc) (ls : Array Slot), (fX6_isPartSo_j70 G p1 p2 v2 p3) v4 = some res → xI D A s (wX6 cI cC cZ h a F G) (xT cI cC cZ) H locs → lv_has ls 6 [(4, .int v2), (0, .ref h), (1, .int p1), (2, .int p2), (3, .int p3)] → W p l e (headSpec wsX6_isPartSo rmX6_isPartSo).room s m args below meth c H locs 0 0 Q (F0 m 70 ls [.int v4]) := by
      intro v4 H locs ls hf I hl
      replace hf := (fX6_isPartSo_j70_e _ _ _ _ _ _).symm.trans hf
      refine lv_istore (lv' := [(5, .int v4), (4, .int v2), (0, .ref h), (1, .int p1), (2, .int p2), (3, .int p3)]) S.1 S.2.1 dX6_isPartSo_70 hl (by decide) rfl (fun ls hl => ?_)
      refine lv_aload_n S.1 S.2.1 dX6_isPartSo_72 rfl (lv_at hl 2 rfl) ?_
      refine x_get (C := RX6) (T := TX6) (N := 32) (ci := 5) (v := .ref (a 4)) S kX6 rfl I 0 4 rfl (by decide) (by decide +kernel) rfl dX6_isPartSo_73 ?_
      refine lv_iload_n S.1 S.2.1 dX6_isPartSo_76 rfl (lv_at hl 3 rfl) ?_
      obtain ⟨hi5, hf⟩ := x_ldE hf
      refine x_iald (f := (G 4)) S I 2 0 rfl rfl hi5 dX6_isPartSo_77 ?_
      by_cases c6 : ((G 4) p1.toNatClampNeg) = 0
      · replace hf := x_ifT hf c6
        refine lv_tableIn (off := 38) (tgt := 116) S.1 S.2.1 dX6_isPartSo_78 (by rw [c6]; decide) (by rw [c6]; decide) (by rw [c6]; rfl) (by decide) ?_
        refine lv_iload_n S.1 S.2.1 dX6_isPartSo_116 rfl (lv_at hl 4 rfl) ?_
        refine lv_aload_n S.1 S.2.1 dX6_isPartSo_117 rfl (lv_at hl 2 rfl) ?_
        refine x_get (C := RX6) (T := TX6) (N := 32) (ci := 5) (v := .ref (a 7)) S kX6 rfl I 0 7 rfl (by decide) (by decide +kernel) rfl dX6_isPartSo_118 ?_
        refine lv_iload_n S.1 S.2.1 dX6_isPartSo_121 rfl (lv_at hl 3 rfl) ?_
        obtain ⟨hi7, hf⟩ := x_ldE hf
        refine x_iald (f := (G 7)) S I 5 0 rfl rfl hi7 dX6_isPartSo_122 ?_
        obtain ⟨r9, hg8, hf⟩ := x_b1E hf
        refine x_c0 (As := [.int p2, .int ((G 7) p1.toNatClampNeg)]) (rest := []) (st' := [.int r9]) S I rfl (tX6_numberAt l D cI cC cZ p2 ((G 7) p1.toNatClampNeg) r9 hg8) (va_cwS 2 S.2.2.2.2 gX6_isPartSo_X6_numberAt rfl rfl rfl (by decide +kernel) ⟨Nat.le_of_ble_eq_true rfl, Nat.le_of_ble_eq_true rfl⟩) hl rfl (Nat.le_of_ble_eq_true rfl) ⟨Nat.zero_le _, Nat.zero_le _⟩ rfl dX6_isPartSo_123 (fun H locs I => ?_)
        refine lv_iload_n S.1 S.2.1 dX6_isPartSo_126 rfl (lv_at hl 4 rfl) ?_
        refine lv_aload_n S.1 S.2.1 dX6_isPartSo_127 rfl (lv_at hl 2 rfl) ?_
        refine x_get (C := RX6) (T := TX6) (N := 32) (ci := 5) (v := .ref (a 8)) S kX6 rfl I 0 8 rfl (by decide) (by decide +kernel) rfl dX6_isPartSo_128 ?_
        refine lv_iload_n S.1 S.2.1 dX6_isPartSo_131 rfl (lv_at hl 3 rfl) ?_
        obtain ⟨hi10, hf⟩ := x_ldE hf
        refine x_iald (f := (G 8)) S I 6 0 rfl rfl hi10 dX6_isPartSo_132 ?_
        obtain ⟨r12, hg11, hf⟩ := x_b1E hf
        refine x_c0 (As := [.int p2, .int ((G 8) p1.toNatClampNeg)]) (rest := [.int r9]) (st' := [.int r12, .int r9]) S I rfl (tX6_numberAt l D cI cC cZ p2 ((G 8) p1.toNatClampNeg) r12 hg11) (va_cwS 2 S.2.2.2.2 gX6_isPartSo_X6_numberAt rfl rfl rfl (by decide +kernel) ⟨Nat.le_of_ble_eq_true rfl, Nat.le_of_ble_eq_true rfl⟩) hl rfl (Nat.le_of_ble_eq_true rfl) ⟨Nat.zero_le _, Nat.zero_le _⟩ rfl dX6_isPartSo_133 (fun H locs I => ?_)
        refine lv_icmp_ge (tgt := 143) S.1 S.2.1 dX6_isPartSo_136 (by decide) (fun c13 => ?_) (fun c13 => ?_)
        · replace hf := x_ifT hf c13
          refine lv_iconst (v := 0) S.1 S.2.1 dX6_isPartSo_143 (by decide) ?_
          exact x_ri E rfl x_n0 hf rfl I rfl dX6_isPartSo_144
        · replace hf := x_ifF hf c13
          refine lv_iconst (v := 1) S.1 S.2.1 dX6_isPartSo_139 (by decide) ?_
          refine lv_goto (tgt := 144) S.1 S.2.1 dX6_isPartSo_140 (by decide) ?_
          exact x_ri E rfl x_n1 hf rfl I rfl dX6_isPartSo_144
      · replace hf := x_ifF hf c6
        by_cases c14 : ((G 4) p1.toNatClampNeg) = 1
        · replace hf := x_ifT hf c14
          refine lv_tableIn (off := 67) (tgt := 145) S.1 S.2.1 dX6_isPartSo_78 (by rw [c14]; decide) (by rw [c14]; decide) (by rw [c14]; rfl) (by decide) ?_
          refine lv_iload_n S.1 S.2.1 dX6_isPartSo_145 rfl (lv_at hl 4 rfl) ?_
          refine lv_aload_n S.1 S.2.1 dX6_isPartSo_146 rfl (lv_at hl 2 rfl) ?_
          refine x_get (C := RX6) (T := TX6) (N := 32) (ci := 5) (v := .ref (a 7)) S kX6 rfl I 0 7 rfl (by decide) (by decide +kernel) rfl dX6_isPartSo_147 ?_
          refine lv_iload_n S.1 S.2.1 dX6_isPartSo_150 rfl (lv_at hl 3 rfl) ?_
          obtain ⟨hi15, hf⟩ := x_ldE hf
          refine x_iald (f := (G 7)) S I 5 0 rfl rfl hi15 dX6_isPartSo_151 ?_
          obtain ⟨r17, hg16, hf⟩ := x_b1E hf
          refine x_c0 (As := [.int p2, .int ((G 7) p1.toNatClampNeg)]) (rest := []) (st' := [.int r17]) S I rfl (tX6_numberAt l D cI cC cZ p2 ((G 7) p1.toNatClampNeg) r17 hg16) (va_cwS 2 S.2.2.2.2 gX6_isPartSo_X6_numberAt rfl rfl rfl (by decide +kernel) ⟨Nat.le_of_ble_eq_true rfl, Nat.le_of_ble_eq_true rfl⟩) hl rfl (Nat.le_of_ble_eq_true rfl) ⟨Nat.zero_le _, Nat.zero_le _⟩ rfl dX6_isPartSo_152 (fun H locs I => ?_)
          refine lv_iload_n S.1 S.2.1 dX6_isPartSo_155 rfl (lv_at hl 4 rfl) ?_
          refine lv_aload_n S.1 S.2.1 dX6_isPartSo_156 rfl (lv_at hl 2 rfl) ?_
          refine x_get (C := RX6) (T := TX6) (N := 32) (ci := 5) (v := .ref (a 8)) S kX6 rfl I 0 8 rfl (by decide) (by decide +kernel) rfl dX6_isPartSo_157 ?_
          refine lv_iload_n S.1 S.2.1 dX6_isPartSo_160 rfl (lv_at hl 3 rfl) ?_
          obtain ⟨hi18, hf⟩ := x_ldE hf
          refine x_iald (f := (G 8)) S I 6 0 rfl rfl hi18 dX6_isPartSo_161 ?_
          obtain ⟨r20, hg19, hf⟩ := x_b1E hf
          refine x_c0 (As := [.int p2, .int ((G 8) p1.toNatClampNeg)]) (rest := [.int r17]) (st' := [.int r20, .int r17]) S I rfl (tX6_numberAt l D cI cC cZ p2 ((G 8) p1.toNatClampNeg) r20 hg19) (va_cwS 2 S.2.2.2.2 gX6_isPartSo_X6_numberAt rfl rfl rfl (by decide +kernel) ⟨Nat.le_of_ble_eq_true rfl, Nat.le_of_ble_eq_true rfl⟩) hl rfl (Nat.le_of_ble_eq_true rfl) ⟨Nat.zero_le _, Nat.zero_le _⟩ rfl dX6_isPartSo_162 (fun H locs I => ?_)
          refine lv_icmp_ne (tgt := 172) S.1 S.2.1 dX6_isPartSo_165 (by decide) (fun c21 => ?_) (fun c21 => ?_)
          · replace hf := x_ifF hf c21
            refine lv_iconst (v := 0) S.1 S.2.1 dX6_isPartSo_172 (by decide) ?_
            exact x_ri E rfl x_n0 hf rfl I rfl dX6_isPartSo_173
          · replace hf := x_ifT hf c21
            refine lv_iconst (v := 1) S.1 S.2.1 dX6_isPartSo_168 (by decide) ?_
            refine lv_goto (tgt := 173) S.1 S.2.1 dX6_isPartSo_169 (by decide) ?_
            exact x_ri E rfl x_n1 hf rfl I rfl dX6_isPartSo_173
        · replace hf := x_ifF hf c14
          by_cases c22 : ((G 4) p1.toNatClampNeg) = 2
          · replace hf := x_ifT hf c22
            refine lv_tableIn (off := 96) (tgt := 174) S.1 S.2.1 dX6_isPartSo_78 (by rw [c22]; decide) (by rw [c22]; decide) (by rw [c22]; rfl) (by decide) ?_
            refine lv_iload S.1 S.2.1 dX6_isPartSo_174 (lv_at hl 1 rfl) ?_
            refine lv_if_ne (tgt := 183) S.1 S.2.1 dX6_isPartSo_176 (by decide) (fun c23 => ?_) (fun c23 => ?_)
            · replace hf := x_ifF hf c23
              refine lv_iconst (v := 0) S.1 S.2.1 dX6_isPartSo_183 (by decide) ?_
              exact x_ri E rfl x_n0 hf rfl I rfl dX6_isPartSo_184
            · replace hf := x_ifT hf c23
              refine lv_iconst (v := 1) S.1 S.2.1 dX6_isPartSo_179 (by decide) ?_
              refine lv_goto (tgt := 184) S.1 S.2.1 dX6_isPartSo_180 (by decide) ?_
              exact x_ri E rfl x_n1 hf rfl I rfl dX6_isPartSo_184
          · replace hf := x_ifF hf c22
            by_cases c24 : ((G 4) p1.toNatClampNeg) = 3
            · replace hf := x_ifT hf c24
              refine lv_tableIn (off := 107) (tgt := 185) S.1 S.2.1 dX6_isPartSo_78 (by rw [c24]; decide) (by rw [c24]; decide) (by rw [c24]; rfl) (by decide) ?_
              refine lv_iload S.1 S.2.1 dX6_isPartSo_185 (lv_at hl 1 rfl) ?_
              refine lv_if_eq (tgt := 199) S.1 S.2.1 dX6_isPartSo_187 (by decide) (fun c25 => ?_) (fun c25 => ?_)
              · replace hf := x_ifT hf c25
                refine lv_iconst (v := 0) S.1 S.2.1 dX6_isPartSo_199 (by decide) ?_
                exact x_ri E rfl x_n0 hf rfl I rfl dX6_isPartSo_200
              · replace hf := x_ifF hf c25
                refine lv_iload S.1 S.2.1 dX6_isPartSo_190 (lv_at hl 0 rfl) ?_
                refine lv_if_eq (tgt := 199) S.1 S.2.1 dX6_isPartSo_192 (by decide) (fun c26 => ?_) (fun c26 => ?_)
                · replace hf := x_ifT hf c26
                  refine lv_iconst (v := 0) S.1 S.2.1 dX6_isPartSo_199 (by decide) ?_
                  exact x_ri E rfl x_n0 hf rfl I rfl dX6_isPartSo_200
                · replace hf := x_ifF hf c26
                  refine lv_iconst (v := 1) S.1 S.2.1 dX6_isPartSo_195 (by decide) ?_
                  refine lv_goto (tgt := 200) S.1 S.2.1 dX6_isPartSo_196 (by decide) ?_
                  exact x_ri E rfl x_n1 hf rfl I rfl dX6_isPartSo_200
            · replace hf := x_ifF hf c24
              by_cases c27 : ((G 4) p1.toNatClampNeg) = 4
              · replace hf := x_ifT hf c27
                refine lv_tableIn (off := 123) (tgt := 201) S.1 S.2.1 dX6_isPartSo_78 (by rw [c27]; decide) (by rw [c27]; decide) (by rw [c27]; rfl) (by decide) ?_
                refine lv_iload S.1 S.2.1 dX6_isPartSo_201 (lv_at hl 1 rfl) ?_
                refine lv_if_ne (tgt := 211) S.1 S.2.1 dX6_isPartSo_203 (by decide) (fun c28 => ?_) (fun c28 => ?_)
                · replace hf := x_ifF hf c28
                  refine lv_iconst (v := 1) S.1 S.2.1 dX6_isPartSo_211 (by decide) ?_
                  refine lv_goto (tgt := 216) S.1 S.2.1 dX6_isPartSo_212 (by decide) ?_
                  exact x_ri E rfl x_n1 hf rfl I rfl dX6_isPartSo_216
                · replace hf := x_ifT hf c28
                  refine lv_iload S.1 S.2.1 dX6_isPartSo_206 (lv_at hl 0 rfl) ?_
                  refine lv_if_eq (tgt := 215) S.1 S.2.1 dX6_isPartSo_208 (by decide) (fun c29 => ?_) (fun c29 => ?_)
                  · replace hf := x_ifT hf c29
                    refine lv_iconst (v := 0) S.1 S.2.1 dX6_isPartSo_215 (by decide) ?_
                    exact x_ri E rfl x_n0 hf rfl I rfl dX6_isPartSo_216
                  · replace hf := x_ifF hf c29
                    refine lv_iconst (v := 1) S.1 S.2.1 dX6_isPartSo_211 (by decide) ?_
                    refine lv_goto (tgt := 216) S.1 S.2.1 dX6_isPartSo_212 (by decide) ?_
                    exact x_ri E rfl x_n1 hf rfl I rfl dX6_isPartSo_216
              · replace hf := x_ifF hf c27
                by_cases c30 : ((G 4) p1.toNatClampNeg) = 5
                · replace hf := x_ifT hf c30
                  refine lv_tableIn (off := 139) (tgt := 217) S.1 S.2.1 dX6_isPartSo_78 (by rw [c30]; decide) (by rw [c30]; decide) (by rw [c30]; rfl) (by decide) ?_
                  refine lv_iload S.1 S.2.1 dX6_isPartSo_217 (lv_at hl 1 rfl) ?_
                  refine lv_if_eq (tgt := 227) S.1 S.2.1 dX6_isPartSo_219 (by decide) (fun c31 => ?_) (fun c31 => ?_)
                  · replace hf := x_ifT hf c31
                    refine lv_iconst (v := 1) S.1 S.2.1 dX6_isPartSo_227 (by decide) ?_
                    refine lv_goto (tgt := 232) S.1 S.2.1 dX6_isPartSo_228 (by decide) ?_
                    exact x_ri E rfl x_n1 hf rfl I rfl dX6_isPartSo_232
                  · replace hf := x_ifF hf c31
                    refine lv_iload S.1 S.2.1 dX6_isPartSo_222 (lv_at hl 0 rfl) ?_
                    refine lv_if_eq (tgt := 231) S.1 S.2.1 dX6_isPartSo_224 (by decide) (fun c32 => ?_) (fun c32 => ?_)
                    · replace hf := x_ifT hf c32
                      refine lv_iconst (v := 0) S.1 S.2.1 dX6_isPartSo_231 (by decide) ?_
                      exact x_ri E rfl x_n0 hf rfl I rfl dX6_isPartSo_232
                    · replace hf := x_ifF hf c32
                      refine lv_iconst (v := 1) S.1 S.2.1 dX6_isPartSo_227 (by decide) ?_
                      refine lv_goto (tgt := 232) S.1 S.2.1 dX6_isPartSo_228 (by decide) ?_
                      exact x_ri E rfl x_n1 hf rfl I rfl dX6_isPartSo_232
                · replace hf := x_ifF hf c30
                  refine lv_tableOut (tgt := 233) S.1 S.2.1 dX6_isPartSo_78 (by have e0 := lv_neT c6 (a := 0) (by decide); have e1 := lv_neT c14 (a := 1) (by decide); have e2 := lv_neT c22 (a := 2) (by decide); have e3 := lv_neT c24 (a := 3) (by decide); have e4 := lv_neT c27 (a := 4) (by decide); have e5 := lv_neT c30 (a := 5) (by decide); omega) (by decide) ?_
                  refine lv_aload_n S.1 S.2.1 dX6_isPartSo_233 rfl (lv_at hl 2 rfl) ?_
                  refine lv_iload_n S.1 S.2.1 dX6_isPartSo_234 rfl (lv_at hl 3 rfl) ?_
                  refine lv_iload_n S.1 S.2.1 dX6_isPartSo_235 rfl (lv_at hl 4 rfl) ?_
                  refine lv_iload_n S.1 S.2.1 dX6_isPartSo_236 rfl (lv_at hl 5 rfl) ?_
                  obtain ⟨r34, hg33, hf⟩ := x_b1E hf
                  refine x_cA (As := [.int p1, .int p2, .int p3]) (rest := []) (st' := [.int r34]) (ws' := (wX6 cI cC cZ h a F G)) S I (tX6_isSoFor l D cI cC cZ h a F G p1 p2 p3 r34 hg33) (cwV 3 S.2.2.2.2 gX6_isPartSo_X6_isSoFor rfl rfl rfl (by decide +kernel) ⟨Nat.le_of_ble_eq_true rfl, Nat.le_of_ble_eq_true rfl⟩) 0 5 rfl rfl rfl rfl hl rfl (Nat.le_of_ble_eq_true rfl) ⟨Nat.zero_le _, Nat.zero_le _⟩ rfl dX6_isPartSo_237 (fun H locs I => ?_)
                  exact x_ri E rfl rfl hf rfl I rfl dX6_isPartSo_240
    have hj69 : ∀  (H : Heap) (locs : List Loc) (ls : Array Slot), (fX6_isPartSo_j69 G p1 p2 v2 p3) = some res → xI D A s (wX6 cI cC cZ h a F G) (xT cI cC cZ) H locs → lv_has ls 6 [(4, .int v2), (0, .ref h), (1, .int p1), (2, .int p2), (3, .int p3)] → W p l e (headSpec wsX6_isPartSo rmX6_isPartSo).room s m args below meth c H locs 0 0 Q (F0 m 69 ls []) := by
      intro  H locs ls hf I hl
      replace hf := (fX6_isPartSo_j69_e _ _ _ _ _).symm.trans hf
      refine lv_iconst (v := 0) S.1 S.2.1 dX6_isPartSo_69 (by decide) ?_
      exact hj70 0 _ _ _ hf I (lv_sub hl [0, 1, 2, 3, 4] rfl)
    refine lv_icmp_eq (tgt := 69) S.1 S.2.1 dX6_isPartSo_43 (by decide) (fun c35 => ?_) (fun c35 => ?_)
    · replace hf := x_ifT hf c35
      exact hj69 _ _ _ hf I (lv_sub hl [0, 1, 2, 3, 4] rfl)
    · replace hf := x_ifF hf c35
      refine lv_aload_n S.1 S.2.1 dX6_isPartSo_46 rfl (lv_at hl 1 rfl) ?_
      refine x_get (C := RX6) (T := TX6) (N := 32) (ci := 5) (v := .ref (a 17)) S kX6 rfl I 0 17 rfl (by decide) (by decide +kernel) rfl dX6_isPartSo_47 ?_
      refine lv_bipush (v := 125) S.1 S.2.1 dX6_isPartSo_50 (by decide) ?_
      refine lv_aload_n S.1 S.2.1 dX6_isPartSo_52 rfl (lv_at hl 1 rfl) ?_
      refine x_get (C := RX6) (T := TX6) (N := 32) (ci := 5) (v := .ref (a 6)) S kX6 rfl I 0 6 rfl (by decide) (by decide +kernel) rfl dX6_isPartSo_53 ?_
      refine lv_iload_n S.1 S.2.1 dX6_isPartSo_56 rfl (lv_at hl 2 rfl) ?_
      obtain ⟨hi36, hf⟩ := x_ldE hf
      refine x_iald (f := (G 6)) S I 4 0 rfl rfl hi36 dX6_isPartSo_57 ?_
      refine lv_imul S.1 S.2.1 dX6_isPartSo_58 ?_
      refine lv_iload_n S.1 S.2.1 dX6_isPartSo_59 rfl (lv_at hl 3 rfl) ?_
      refine lv_iadd S.1 S.2.1 dX6_isPartSo_60 ?_
      obtain ⟨hi37, hf⟩ := x_ldE hf
      refine x_zald (f := (G 17)) S I 13 2 rfl rfl hi37 dX6_isPartSo_61 ?_
      refine lv_if_eq (tgt := 69) S.1 S.2.1 dX6_isPartSo_62 (by decide) (fun c38 => ?_) (fun c38 => ?_)
      · replace hf := x_ifT hf c38
        exact hj69 _ _ _ hf I (lv_sub hl [0, 1, 2, 3, 4] rfl)
      · replace hf := x_ifF hf c38
        refine lv_iconst (v := 1) S.1 S.2.1 dX6_isPartSo_65 (by decide) ?_
        refine lv_goto (tgt := 70) S.1 S.2.1 dX6_isPartSo_66 (by decide) ?_
        exact hj70 1 _ _ _ hf I (lv_sub hl [0, 1, 2, 3, 4] rfl)
  have hj33 : ∀  (H : Heap) (locs : List Loc) (ls : Array Slot), (fX6_isPartSo_j33 G p1 p2 p3) = some res → xI D A s (wX6 cI cC cZ h a F G) (xT cI cC cZ) H locs → lv_has ls 6 [(0, .ref h), (1, .int p1), (2, .int p2), (3, .int p3)] → W p l e (headSpec wsX6_isPartSo rmX6_isPartSo).room s m args below meth c H locs 0 0 Q (F0 m 33 ls []) := by
    intro  H locs ls hf I hl
    replace hf := (fX6_isPartSo_j33_e _ _ _ _).symm.trans hf
    refine lv_iconst (v := 0) S.1 S.2.1 dX6_isPartSo_33 (by decide) ?_
    exact hj34 0 _ _ _ hf I (lv_sub hl [0, 1, 2, 3] rfl)
  refine lv_icmp_eq (tgt := 33) S.1 S.2.1 dX6_isPartSo_7 (by decide) (fun c39 => ?_) (fun c39 => ?_)
  · replace hf := x_ifT hf c39
    exact hj33 _ _ _ hf I (lv_sub hl [0, 1, 2, 3] rfl)
  · replace hf := x_ifF hf c39
    refine lv_aload_n S.1 S.2.1 dX6_isPartSo_10 rfl (lv_at hl 0 rfl) ?_
    refine x_get (C := RX6) (T := TX6) (N := 32) (ci := 5) (v := .ref (a 17)) S kX6 rfl I 0 17 rfl (by decide) (by decide +kernel) rfl dX6_isPartSo_11 ?_
    refine lv_bipush (v := 125) S.1 S.2.1 dX6_isPartSo_14 (by decide) ?_
    refine lv_aload_n S.1 S.2.1 dX6_isPartSo_16 rfl (lv_at hl 0 rfl) ?_
    refine x_get (C := RX6) (T := TX6) (N := 32) (ci := 5) (v := .ref (a 5)) S kX6 rfl I 0 5 rfl (by decide) (by decide +kernel) rfl dX6_isPartSo_17 ?_
    refine lv_iload_n S.1 S.2.1 dX6_isPartSo_20 rfl (lv_at hl 1 rfl) ?_
    obtain ⟨hi40, hf⟩ := x_ldE hf
    refine x_iald (f := (G 5)) S I 3 0 rfl rfl hi40 dX6_isPartSo_21 ?_
    refine lv_imul S.1 S.2.1 dX6_isPartSo_22 ?_
    refine lv_iload_n S.1 S.2.1 dX6_isPartSo_23 rfl (lv_at hl 2 rfl) ?_
    refine lv_iadd S.1 S.2.1 dX6_isPartSo_24 ?_
    obtain ⟨hi41, hf⟩ := x_ldE hf
    refine x_zald (f := (G 17)) S I 13 2 rfl rfl hi41 dX6_isPartSo_25 ?_
    refine lv_if_eq (tgt := 33) S.1 S.2.1 dX6_isPartSo_26 (by decide) (fun c42 => ?_) (fun c42 => ?_)
    · replace hf := x_ifT hf c42
      exact hj33 _ _ _ hf I (lv_sub hl [0, 1, 2, 3] rfl)
    · replace hf := x_ifF hf c42
      refine lv_iconst (v := 1) S.1 S.2.1 dX6_isPartSo_29 (by decide) ?_
      refine lv_goto (tgt := 34) S.1 S.2.1 dX6_isPartSo_30 (by decide) ?_
      exact hj34 1 _ _ _ hf I (lv_sub hl [0, 1, 2, 3] rfl)
set_option maxHeartbeats 4000000 in
set_option maxRecDepth 100000 in
theorem tX6_fill (l : Launch) (D : va_G) (cI cC cZ : ClassId) (h : Nat) (a : Nat → Nat) (F : xF) (G : xG) (p1 : Int32) (res : xG) (hf : fX6_fill F G p1 = some res) : xC l yX6_fill wsX6_fill rmX6_fill D [.ref h, .int p1] (wX6 cI cC cZ h a F G) (fun t => (wX6 cI cC cZ h a F t)) (xT cI cC cZ) (fun _ => none) res := by
  have kX6 : ∀ w ∈ u_ws RX6 TX6 32, w ∈ wsX6_fill := by decide +kernel
  refine x_of (cc := cX6_fill) (maxL := 5) (ret := none) (by decide) rfl (Nat.le_of_ble_eq_true rfl) ?_
  intro p e s m args below meth c A Q ls S I E hl
  replace hl : lv_has ls 5 [(0, .ref h), (1, .int p1)] := hl
  replace hf := (fX6_fill_e _ _ _).symm.trans hf
  refine lv_iconst (v := 0) S.1 S.2.1 dX6_fill_0 (by decide) ?_
  refine lv_istore_n (lv' := [(2, .int 0), (0, .ref h), (1, .int p1)]) S.1 S.2.1 dX6_fill_1 rfl hl (by decide) rfl (fun ls hl => ?_)
  have hl2 : ∀ (n2 : Nat), ∀ (v1 : Int32) (G2 : xG) (H : Heap) (locs : List Loc) (ls : Array Slot), (fX6_fill_l2 F p1 n2) v1 G2 = some res → xI D A s (wX6 cI cC cZ h a F G2) (xT cI cC cZ) H locs → lv_has ls 5 [(2, .int v1), (0, .ref h), (1, .int p1)] → W p l e (headSpec wsX6_fill rmX6_fill).room s m args below meth c H locs 0 0 Q (F0 m 2 ls []) := by
    intro n2
    induction n2 with
    | zero =>
      intro v1 G2 H locs ls hf I hl
      cases (fX6_fill_l2_z _ _ _ _).symm.trans hf
    | succ n2 ih2 =>
      intro v1 G2 H locs ls hf I hl
      replace hf := (fX6_fill_l2_e _ _ _ _ _).symm.trans hf
      refine lv_iload_n S.1 S.2.1 dX6_fill_2 rfl (lv_at hl 0 rfl) ?_
      refine lv_aload_n S.1 S.2.1 dX6_fill_3 rfl (lv_at hl 1 rfl) ?_
      refine x_get (C := RX6) (T := TX6) (N := 32) (ci := 5) (v := .int (F 3)) S kX6 rfl I 0 3 rfl (by decide) (by decide +kernel) rfl dX6_fill_4 ?_
      refine lv_icmp_ge (tgt := 95) S.1 S.2.1 dX6_fill_7 (by decide) (fun c3 => ?_) (fun c3 => ?_)
      · replace hf := x_ifT hf c3
        exact x_rv E rfl hf rfl I rfl dX6_fill_95
      · replace hf := x_ifF hf c3
        refine lv_iconst (v := 0) S.1 S.2.1 dX6_fill_10 (by decide) ?_
        refine lv_istore_n (lv' := [(3, .int 0), (2, .int v1), (0, .ref h), (1, .int p1)]) S.1 S.2.1 dX6_fill_11 rfl hl (by decide) rfl (fun ls hl => ?_)
        have hx89 : ∀ (G4 : xG) (H : Heap) (locs : List Loc) (ls : Array Slot), (fX6_fill_x89 (fX6_fill_l2 F p1 n2) v1) G4 = some res → xI D A s (wX6 cI cC cZ h a F G4) (xT cI cC cZ) H locs → lv_has ls 5 [(2, .int v1), (0, .ref h), (1, .int p1)] → W p l e (headSpec wsX6_fill rmX6_fill).room s m args below meth c H locs 0 0 Q (F0 m 89 ls []) := by
          intro G4 H locs ls hf I hl
          replace hf := (fX6_fill_x89_e _ _ _).symm.trans hf
          refine lv_iinc (v := (v1 + 1)) (lv' := [(2, .int (v1 + 1)), (0, .ref h), (1, .int p1)]) S.1 S.2.1 dX6_fill_89 hl (k := 0) rfl rfl (by decide) rfl (fun ls hl => ?_)
          refine lv_goto (tgt := 2) S.1 S.2.1 dX6_fill_92 (by decide) ?_
          exact ih2 (v1 + 1) G4 _ _ _ hf I (lv_sub hl [0, 1, 2] rfl)
        have hl12 : ∀ (n12 : Nat), ∀ (v5 : Int32) (G6 : xG) (H : Heap) (locs : List Loc) (ls : Array Slot), (fX6_fill_l12 (fX6_fill_l2 F p1 n2) v1 p1 n12) v5 G6 = some res → xI D A s (wX6 cI cC cZ h a F G6) (xT cI cC cZ) H locs → lv_has ls 5 [(3, .int v5), (2, .int v1), (0, .ref h), (1, .int p1)] → W p l e (headSpec wsX6_fill rmX6_fill).room s m args below meth c H locs 0 0 Q (F0 m 12 ls []) := by
          intro n12
          induction n12 with
          | zero =>
            intro v5 G6 H locs ls hf I hl
            cases (fX6_fill_l12_z _ _ _ _ _).symm.trans hf
          | succ n12 ih12 =>
            intro v5 G6 H locs ls hf I hl
            replace hf := (fX6_fill_l12_e _ _ _ _ _ _).symm.trans hf
            refine lv_iload_n S.1 S.2.1 dX6_fill_12 rfl (lv_at hl 0 rfl) ?_
            refine lv_bipush (v := 125) S.1 S.2.1 dX6_fill_13 (by decide) ?_
            refine lv_icmp_ge (tgt := 89) S.1 S.2.1 dX6_fill_15 (by decide) (fun c7 => ?_) (fun c7 => ?_)
            · replace hf := x_ifT hf c7
              exact hx89 G6 _ _ _ hf I (lv_sub hl [1, 2, 3] rfl)
            · replace hf := x_ifF hf c7
              refine lv_iload_n S.1 S.2.1 dX6_fill_18 rfl (lv_at hl 0 rfl) ?_
              refine lv_iconst (v := 0) S.1 S.2.1 dX6_fill_19 (by decide) ?_
              obtain ⟨r9, hg8, hf⟩ := x_b1E hf
              refine x_c0 (As := [.int v5, .int 0]) (rest := []) (st' := [.int r9]) S I rfl (tX6_numberAt l D cI cC cZ v5 0 r9 hg8) (va_cwS 2 S.2.2.2.2 gX6_fill_X6_numberAt rfl rfl rfl (by decide +kernel) ⟨Nat.le_of_ble_eq_true rfl, Nat.le_of_ble_eq_true rfl⟩) hl rfl (Nat.le_of_ble_eq_true rfl) ⟨Nat.zero_le _, Nat.zero_le _⟩ rfl dX6_fill_20 (fun H locs I => ?_)
              refine lv_iload_n S.1 S.2.1 dX6_fill_23 rfl (lv_at hl 3 rfl) ?_
              have hj50 : ∀ (v10 : Int32) (H : Heap) (locs : List Loc) (ls : Array Slot), (fX6_fill_j50 (fX6_fill_l12 (fX6_fill_l2 F p1 n2) v1 p1 n12) G6 v1 v5 p1) v10 = some res → xI D A s (wX6 cI cC cZ h a F G6) (xT cI cC cZ) H locs → lv_has ls 5 [(3, .int v5), (2, .int v1), (0, .ref h), (1, .int p1)] → W p l e (headSpec wsX6_fill rmX6_fill).room s m args below meth c H locs 0 0 Q (F0 m 50 ls [.int v10]) := by
                intro v10 H locs ls hf I hl
                replace hf := (fX6_fill_j50_e _ _ _ _ _ _).symm.trans hf
                refine lv_istore (lv' := [(4, .int v10), (3, .int v5), (2, .int v1), (0, .ref h), (1, .int p1)]) S.1 S.2.1 dX6_fill_50 hl (by decide) rfl (fun ls hl => ?_)
                refine lv_aload_n S.1 S.2.1 dX6_fill_52 rfl (lv_at hl 3 rfl) ?_
                refine x_get (C := RX6) (T := TX6) (N := 32) (ci := 5) (v := .ref (a 17)) S kX6 rfl I 0 17 rfl (by decide) (by decide +kernel) rfl dX6_fill_53 ?_
                refine lv_bipush (v := 125) S.1 S.2.1 dX6_fill_56 (by decide) ?_
                refine lv_iload_n S.1 S.2.1 dX6_fill_58 rfl (lv_at hl 2 rfl) ?_
                refine lv_imul S.1 S.2.1 dX6_fill_59 ?_
                refine lv_iload_n S.1 S.2.1 dX6_fill_60 rfl (lv_at hl 1 rfl) ?_
                refine lv_iadd S.1 S.2.1 dX6_fill_61 ?_
                refine lv_iload S.1 S.2.1 dX6_fill_62 (lv_at hl 0 rfl) ?_
                have hj82 : ∀ (v11 : Int32) (H : Heap) (locs : List Loc) (ls : Array Slot), (fX6_fill_j82 (fX6_fill_l12 (fX6_fill_l2 F p1 n2) v1 p1 n12) G6 v1 v5) v11 = some res → xI D A s (wX6 cI cC cZ h a F G6) (xT cI cC cZ) H locs → lv_has ls 5 [(3, .int v5), (2, .int v1), (0, .ref h), (1, .int p1)] → W p l e (headSpec wsX6_fill rmX6_fill).room s m args below meth c H locs 0 0 Q (F0 m 82 ls [.int v11, .int ((125 * v1) + v5), .ref (a 17)]) := by
                  intro v11 H locs ls hf I hl
                  replace hf := (fX6_fill_j82_e _ _ _ _ _).symm.trans hf
                  obtain ⟨hi12, hf⟩ := x_ldE hf
                  refine x_zast (f := (G6 17)) (ws' := (wX6 cI cC cZ h a F (va_up G6 17 (upd (G6 17) ((125 * v1) + v5).toNatClampNeg (x_zn v11))))) S I 13 2 rfl rfl hi12 rfl dX6_fill_82 (fun H locs I => ?_)
                  refine lv_iinc (v := (v5 + 1)) (lv' := [(3, .int (v5 + 1)), (2, .int v1), (0, .ref h), (1, .int p1)]) S.1 S.2.1 dX6_fill_83 hl (k := 0) rfl rfl (by decide) rfl (fun ls hl => ?_)
                  refine lv_goto (tgt := 12) S.1 S.2.1 dX6_fill_86 (by decide) ?_
                  exact ih12 (v5 + 1) (va_up G6 17 (upd (G6 17) ((125 * v1) + v5).toNatClampNeg (x_zn v11))) _ _ _ hf I (lv_sub hl [0, 1, 2, 3] rfl)
                have hj81 : ∀  (H : Heap) (locs : List Loc) (ls : Array Slot), (fX6_fill_j81 (fX6_fill_l12 (fX6_fill_l2 F p1 n2) v1 p1 n12) G6 v1 v5) = some res → xI D A s (wX6 cI cC cZ h a F G6) (xT cI cC cZ) H locs → lv_has ls 5 [(3, .int v5), (2, .int v1), (0, .ref h), (1, .int p1)] → W p l e (headSpec wsX6_fill rmX6_fill).room s m args below meth c H locs 0 0 Q (F0 m 81 ls [.int ((125 * v1) + v5), .ref (a 17)]) := by
                  intro  H locs ls hf I hl
                  replace hf := (fX6_fill_j81_e _ _ _ _).symm.trans hf
                  refine lv_iconst (v := 0) S.1 S.2.1 dX6_fill_81 (by decide) ?_
                  exact hj82 0 _ _ _ hf I (lv_sub hl [0, 1, 2, 3] rfl)
                refine lv_if_eq (tgt := 81) S.1 S.2.1 dX6_fill_64 (by decide) (fun c13 => ?_) (fun c13 => ?_)
                · replace hf := x_ifT hf c13
                  exact hj81 _ _ _ hf I (lv_sub hl [1, 2, 3, 4] rfl)
                · replace hf := x_ifF hf c13
                  refine lv_aload_n S.1 S.2.1 dX6_fill_67 rfl (lv_at hl 3 rfl) ?_
                  refine lv_iload_n S.1 S.2.1 dX6_fill_68 rfl (lv_at hl 2 rfl) ?_
                  refine lv_iload_n S.1 S.2.1 dX6_fill_69 rfl (lv_at hl 1 rfl) ?_
                  refine lv_iload_n S.1 S.2.1 dX6_fill_70 rfl (lv_at hl 4 rfl) ?_
                  obtain ⟨r15, hg14, hf⟩ := x_b1E hf
                  refine x_cA (As := [.int v1, .int v5, .int p1]) (rest := [.int ((125 * v1) + v5), .ref (a 17)]) (st' := [.int r15, .int ((125 * v1) + v5), .ref (a 17)]) (ws' := (wX6 cI cC cZ h a F G6)) S I (tX6_isPartSo l D cI cC cZ h a F G6 v1 v5 p1 r15 hg14) (cwV 3 S.2.2.2.2 gX6_fill_X6_isPartSo rfl rfl rfl (by decide +kernel) ⟨Nat.le_of_ble_eq_true rfl, Nat.le_of_ble_eq_true rfl⟩) 0 5 rfl rfl rfl rfl hl rfl (Nat.le_of_ble_eq_true rfl) ⟨Nat.zero_le _, Nat.zero_le _⟩ rfl dX6_fill_71 (fun H locs I => ?_)
                  refine lv_if_eq (tgt := 81) S.1 S.2.1 dX6_fill_74 (by decide) (fun c16 => ?_) (fun c16 => ?_)
                  · replace hf := x_ifT hf c16
                    exact hj81 _ _ _ hf I (lv_sub hl [1, 2, 3, 4] rfl)
                  · replace hf := x_ifF hf c16
                    refine lv_iconst (v := 1) S.1 S.2.1 dX6_fill_77 (by decide) ?_
                    refine lv_goto (tgt := 82) S.1 S.2.1 dX6_fill_78 (by decide) ?_
                    exact hj82 1 _ _ _ hf I (lv_sub hl [1, 2, 3, 4] rfl)
              have hj49 : ∀  (H : Heap) (locs : List Loc) (ls : Array Slot), (fX6_fill_j49 (fX6_fill_l12 (fX6_fill_l2 F p1 n2) v1 p1 n12) G6 v1 v5 p1) = some res → xI D A s (wX6 cI cC cZ h a F G6) (xT cI cC cZ) H locs → lv_has ls 5 [(3, .int v5), (2, .int v1), (0, .ref h), (1, .int p1)] → W p l e (headSpec wsX6_fill rmX6_fill).room s m args below meth c H locs 0 0 Q (F0 m 49 ls []) := by
                intro  H locs ls hf I hl
                replace hf := (fX6_fill_j49_e _ _ _ _ _).symm.trans hf
                refine lv_iconst (v := 0) S.1 S.2.1 dX6_fill_49 (by decide) ?_
                exact hj50 0 _ _ _ hf I (lv_sub hl [0, 1, 2, 3] rfl)
              refine lv_icmp_ge (tgt := 49) S.1 S.2.1 dX6_fill_24 (by decide) (fun c17 => ?_) (fun c17 => ?_)
              · replace hf := x_ifT hf c17
                exact hj49 _ _ _ hf I (lv_sub hl [0, 1, 2, 3] rfl)
              · replace hf := x_ifF hf c17
                refine lv_iload_n S.1 S.2.1 dX6_fill_27 rfl (lv_at hl 0 rfl) ?_
                refine lv_iconst (v := 1) S.1 S.2.1 dX6_fill_28 (by decide) ?_
                obtain ⟨r19, hg18, hf⟩ := x_b1E hf
                refine x_c0 (As := [.int v5, .int 1]) (rest := []) (st' := [.int r19]) S I rfl (tX6_numberAt l D cI cC cZ v5 1 r19 hg18) (va_cwS 2 S.2.2.2.2 gX6_fill_X6_numberAt rfl rfl rfl (by decide +kernel) ⟨Nat.le_of_ble_eq_true rfl, Nat.le_of_ble_eq_true rfl⟩) hl rfl (Nat.le_of_ble_eq_true rfl) ⟨Nat.zero_le _, Nat.zero_le _⟩ rfl dX6_fill_29 (fun H locs I => ?_)
                refine lv_iload_n S.1 S.2.1 dX6_fill_32 rfl (lv_at hl 3 rfl) ?_
                refine lv_icmp_ge (tgt := 49) S.1 S.2.1 dX6_fill_33 (by decide) (fun c20 => ?_) (fun c20 => ?_)
                · replace hf := x_ifT hf c20
                  exact hj49 _ _ _ hf I (lv_sub hl [0, 1, 2, 3] rfl)
                · replace hf := x_ifF hf c20
                  refine lv_iload_n S.1 S.2.1 dX6_fill_36 rfl (lv_at hl 0 rfl) ?_
                  refine lv_iconst (v := 2) S.1 S.2.1 dX6_fill_37 (by decide) ?_
                  obtain ⟨r22, hg21, hf⟩ := x_b1E hf
                  refine x_c0 (As := [.int v5, .int 2]) (rest := []) (st' := [.int r22]) S I rfl (tX6_numberAt l D cI cC cZ v5 2 r22 hg21) (va_cwS 2 S.2.2.2.2 gX6_fill_X6_numberAt rfl rfl rfl (by decide +kernel) ⟨Nat.le_of_ble_eq_true rfl, Nat.le_of_ble_eq_true rfl⟩) hl rfl (Nat.le_of_ble_eq_true rfl) ⟨Nat.zero_le _, Nat.zero_le _⟩ rfl dX6_fill_38 (fun H locs I => ?_)
                  refine lv_iload_n S.1 S.2.1 dX6_fill_41 rfl (lv_at hl 3 rfl) ?_
                  refine lv_icmp_ge (tgt := 49) S.1 S.2.1 dX6_fill_42 (by decide) (fun c23 => ?_) (fun c23 => ?_)
                  · replace hf := x_ifT hf c23
                    exact hj49 _ _ _ hf I (lv_sub hl [0, 1, 2, 3] rfl)
                  · replace hf := x_ifF hf c23
                    refine lv_iconst (v := 1) S.1 S.2.1 dX6_fill_45 (by decide) ?_
                    refine lv_goto (tgt := 50) S.1 S.2.1 dX6_fill_46 (by decide) ?_
                    exact hj50 1 _ _ _ hf I (lv_sub hl [0, 1, 2, 3] rfl)
        exact hl12 4096 0 G2 _ _ _ hf I (lv_sub hl [0, 1, 2, 3] rfl)
  exact hl2 4096 0 G _ _ _ hf I (lv_sub hl [0, 1, 2] rfl)
set_option maxHeartbeats 4000000 in
set_option maxRecDepth 100000 in
theorem tX6_quantifiers (l : Launch) (D : va_G) (cI cC cZ : ClassId) (h : Nat) (a : Nat → Nat) (F : xF) (G : xG) (res : Int32) (hf : fX6_quantifiers F G = some res) : xC l yX6_quantifiers wsX6_quantifiers rmX6_quantifiers D [.ref h] (wX6 cI cC cZ h a F G) (fun _ => (wX6 cI cC cZ h a F G)) (xT cI cC cZ) (fun t => some (.int t)) res := by
  have kX6 : ∀ w ∈ u_ws RX6 TX6 32, w ∈ wsX6_quantifiers := by decide +kernel
  refine x_of (cc := cX6_quantifiers) (maxL := 3) (ret := (some .int)) (by decide) rfl (Nat.le_of_ble_eq_true rfl) ?_
  intro p e s m args below meth c A Q ls S I E hl
  replace hl : lv_has ls 3 [(0, .ref h)] := hl
  replace hf := (fX6_quantifiers_e _ _).symm.trans hf
  refine lv_iconst (v := 0) S.1 S.2.1 dX6_quantifiers_0 (by decide) ?_
  refine lv_istore_n (lv' := [(1, .int 0), (0, .ref h)]) S.1 S.2.1 dX6_quantifiers_1 rfl hl (by decide) rfl (fun ls hl => ?_)
  refine lv_iconst (v := 0) S.1 S.2.1 dX6_quantifiers_2 (by decide) ?_
  refine lv_istore_n (lv' := [(2, .int 0), (1, .int 0), (0, .ref h)]) S.1 S.2.1 dX6_quantifiers_3 rfl hl (by decide) rfl (fun ls hl => ?_)
  have hl4 : ∀ (n4 : Nat), ∀ (v1 : Int32) (v2 : Int32) (H : Heap) (locs : List Loc) (ls : Array Slot), (fX6_quantifiers_l4 F G n4) v1 v2 = some res → xI D A s (wX6 cI cC cZ h a F G) (xT cI cC cZ) H locs → lv_has ls 3 [(2, .int v2), (1, .int v1), (0, .ref h)] → W p l e (headSpec wsX6_quantifiers rmX6_quantifiers).room s m args below meth c H locs 0 0 Q (F0 m 4 ls []) := by
    intro n4
    induction n4 with
    | zero =>
      intro v1 v2 H locs ls hf I hl
      cases (fX6_quantifiers_l4_z _ _ _ _).symm.trans hf
    | succ n4 ih4 =>
      intro v1 v2 H locs ls hf I hl
      replace hf := (fX6_quantifiers_l4_e _ _ _ _ _).symm.trans hf
      refine lv_iload_n S.1 S.2.1 dX6_quantifiers_4 rfl (lv_at hl 0 rfl) ?_
      refine lv_aload_n S.1 S.2.1 dX6_quantifiers_5 rfl (lv_at hl 2 rfl) ?_
      refine x_get (C := RX6) (T := TX6) (N := 32) (ci := 5) (v := .int (F 1)) S kX6 rfl I 0 1 rfl (by decide) (by decide +kernel) rfl dX6_quantifiers_6 ?_
      refine lv_icmp_ge (tgt := 45) S.1 S.2.1 dX6_quantifiers_9 (by decide) (fun c3 => ?_) (fun c3 => ?_)
      · replace hf := x_ifT hf c3
        refine lv_iload_n S.1 S.2.1 dX6_quantifiers_45 rfl (lv_at hl 1 rfl) ?_
        exact x_ri E rfl rfl hf rfl I rfl dX6_quantifiers_46
      · replace hf := x_ifF hf c3
        refine lv_iload_n S.1 S.2.1 dX6_quantifiers_12 rfl (lv_at hl 1 rfl) ?_
        refine lv_aload_n S.1 S.2.1 dX6_quantifiers_13 rfl (lv_at hl 2 rfl) ?_
        refine x_get (C := RX6) (T := TX6) (N := 32) (ci := 5) (v := .ref (a 2)) S kX6 rfl I 0 2 rfl (by decide) (by decide +kernel) rfl dX6_quantifiers_14 ?_
        refine lv_iload_n S.1 S.2.1 dX6_quantifiers_17 rfl (lv_at hl 0 rfl) ?_
        obtain ⟨hi4, hf⟩ := x_ldE hf
        refine x_cald (f := (G 2)) S I 1 1 rfl rfl hi4 dX6_quantifiers_18 ?_
        obtain ⟨r6, hg5, hf⟩ := x_b1E hf
        refine x_c0 (As := [.int ((G 2) v2.toNatClampNeg)]) (rest := [.int v1]) (st' := [.int r6, .int v1]) S I rfl (tX6_kindOf l D cI cC cZ ((G 2) v2.toNatClampNeg) r6 hg5) (va_cwS 1 S.2.2.2.2 gX6_quantifiers_X6_kindOf rfl rfl rfl (by decide +kernel) ⟨Nat.le_of_ble_eq_true rfl, Nat.le_of_ble_eq_true rfl⟩) hl rfl (Nat.le_of_ble_eq_true rfl) ⟨Nat.zero_le _, Nat.zero_le _⟩ rfl dX6_quantifiers_19 (fun H locs I => ?_)
        refine lv_bipush (v := 6) S.1 S.2.1 dX6_quantifiers_22 (by decide) ?_
        refine lv_bipush (v := 9) S.1 S.2.1 dX6_quantifiers_24 (by decide) ?_
        obtain ⟨r8, hg7, hf⟩ := x_b1E hf
        refine x_c0 (As := [.int r6, .int 6, .int 9]) (rest := [.int v1]) (st' := [.int r8, .int v1]) S I rfl (tX6_in l D cI cC cZ r6 6 9 r8 hg7) (va_cwS 3 S.2.2.2.2 gX6_quantifiers_X6_in rfl rfl rfl (by decide +kernel) ⟨Nat.le_of_ble_eq_true rfl, Nat.le_of_ble_eq_true rfl⟩) hl rfl (Nat.le_of_ble_eq_true rfl) ⟨Nat.zero_le _, Nat.zero_le _⟩ rfl dX6_quantifiers_26 (fun H locs I => ?_)
        have hj37 : ∀ (v9 : Int32) (H : Heap) (locs : List Loc) (ls : Array Slot), (fX6_quantifiers_j37 (fX6_quantifiers_l4 F G n4) v1 v2) v9 = some res → xI D A s (wX6 cI cC cZ h a F G) (xT cI cC cZ) H locs → lv_has ls 3 [(2, .int v2), (0, .ref h)] → W p l e (headSpec wsX6_quantifiers rmX6_quantifiers).room s m args below meth c H locs 0 0 Q (F0 m 37 ls [.int v9, .int v1]) := by
          intro v9 H locs ls hf I hl
          replace hf := (fX6_quantifiers_j37_e _ _ _ _).symm.trans hf
          refine lv_iadd S.1 S.2.1 dX6_quantifiers_37 ?_
          refine lv_istore_n (lv' := [(1, .int (v1 + v9)), (2, .int v2), (0, .ref h)]) S.1 S.2.1 dX6_quantifiers_38 rfl hl (by decide) rfl (fun ls hl => ?_)
          refine lv_iinc (v := (v2 + 1)) (lv' := [(2, .int (v2 + 1)), (1, .int (v1 + v9)), (0, .ref h)]) S.1 S.2.1 dX6_quantifiers_39 hl (k := 1) rfl rfl (by decide) rfl (fun ls hl => ?_)
          refine lv_goto (tgt := 4) S.1 S.2.1 dX6_quantifiers_42 (by decide) ?_
          exact ih4 (v1 + v9) (v2 + 1) _ _ _ hf I (lv_sub hl [0, 1, 2] rfl)
        refine lv_if_eq (tgt := 36) S.1 S.2.1 dX6_quantifiers_29 (by decide) (fun c10 => ?_) (fun c10 => ?_)
        · replace hf := x_ifT hf c10
          refine lv_iconst (v := 0) S.1 S.2.1 dX6_quantifiers_36 (by decide) ?_
          exact hj37 0 _ _ _ hf I (lv_sub hl [0, 2] rfl)
        · replace hf := x_ifF hf c10
          refine lv_iconst (v := 1) S.1 S.2.1 dX6_quantifiers_32 (by decide) ?_
          refine lv_goto (tgt := 37) S.1 S.2.1 dX6_quantifiers_33 (by decide) ?_
          exact hj37 1 _ _ _ hf I (lv_sub hl [0, 2] rfl)
  exact hl4 4096 0 0 _ _ _ hf I (lv_sub hl [0, 1, 2] rfl)
set_option maxHeartbeats 4000000 in
set_option maxRecDepth 100000 in
theorem tX6_isSo (l : Launch) (D : va_G) (cI cC cZ : ClassId) (h : Nat) (a : Nat → Nat) (F : xF) (G : xG) (p1 p2 p3 p4 : Int32) (res : Int32 × xF × xG) (hf : fX6_isSo F G p1 p2 p3 p4 = some res) : xC l yX6_isSo wsX6_isSo rmX6_isSo D [.ref h, .int p1, .int p2, .int p3, .int p4] (wX6 cI cC cZ h a F G) (fun t => (wX6 cI cC cZ h a t.2.1 t.2.2)) (xT cI cC cZ) (fun t => some (.int t.1)) res := by
  have kX6 : ∀ w ∈ u_ws RX6 TX6 32, w ∈ wsX6_isSo := by decide +kernel
  refine x_of (cc := cX6_isSo) (maxL := 6) (ret := (some .boolean)) (by decide) rfl (Nat.le_of_ble_eq_true rfl) ?_
  intro p e s m args below meth c A Q ls S I E hl
  replace hl : lv_has ls 6 [(0, .ref h), (1, .int p1), (2, .int p2), (3, .int p3), (4, .int p4)] := hl
  replace hf := (fX6_isSo_e _ _ _ _ _ _).symm.trans hf
  refine lv_iload_n S.1 S.2.1 dX6_isSo_0 rfl (lv_at hl 1 rfl) ?_
  refine lv_iconst (v := 1) S.1 S.2.1 dX6_isSo_1 (by decide) ?_
  refine lv_iconst (v := 5) S.1 S.2.1 dX6_isSo_2 (by decide) ?_
  obtain ⟨r2, hg1, hf⟩ := x_b1E hf
  refine x_c0 (As := [.int p1, .int 1, .int 5]) (rest := []) (st' := [.int r2]) S I rfl (tX6_in l D cI cC cZ p1 1 5 r2 hg1) (va_cwS 3 S.2.2.2.2 gX6_isSo_X6_in rfl rfl rfl (by decide +kernel) ⟨Nat.le_of_ble_eq_true rfl, Nat.le_of_ble_eq_true rfl⟩) hl rfl (Nat.le_of_ble_eq_true rfl) ⟨Nat.zero_le _, Nat.zero_le _⟩ rfl dX6_isSo_3 (fun H locs I => ?_)
  have hj48 : ∀ (v3 : Int32) (H : Heap) (locs : List Loc) (ls : Array Slot), (fX6_isSo_j48 F G p1 p2 p3 p4) v3 = some res → xI D A s (wX6 cI cC cZ h a F G) (xT cI cC cZ) H locs → lv_has ls 6 [(0, .ref h), (1, .int p1), (2, .int p2), (3, .int p3), (4, .int p4)] → W p l e (headSpec wsX6_isSo rmX6_isSo).room s m args below meth c H locs 0 0 Q (F0 m 48 ls [.int v3]) := by
    intro v3 H locs ls hf I hl
    replace hf := (fX6_isSo_j48_e _ _ _ _ _ _ _).symm.trans hf
    refine lv_istore (lv' := [(5, .int v3), (0, .ref h), (1, .int p1), (2, .int p2), (3, .int p3), (4, .int p4)]) S.1 S.2.1 dX6_isSo_48 hl (by decide) rfl (fun ls hl => ?_)
    refine lv_aload_n S.1 S.2.1 dX6_isSo_50 rfl (lv_at hl 1 rfl) ?_
    refine lv_iload S.1 S.2.1 dX6_isSo_51 (lv_at hl 0 rfl) ?_
    have hj81 : ∀ (v4 : Int32) (F5 : xF) (G6 : xG) (H : Heap) (locs : List Loc) (ls : Array Slot), (fX6_isSo_j81 p1 p2 p3 p4) v4 F5 G6 = some res → xI D A s (wX6 cI cC cZ h a F5 G6) (xT cI cC cZ) H locs → lv_has ls 6 [(0, .ref h), (1, .int p1), (2, .int p2), (3, .int p3), (4, .int p4)] → W p l e (headSpec wsX6_isSo rmX6_isSo).room s m args below meth c H locs 0 0 Q (F0 m 81 ls [.int v4, .ref h]) := by
      intro v4 F5 G6 H locs ls hf I hl
      replace hf := (fX6_isSo_j81_e _ _ _ _ _ _ _).symm.trans hf
      obtain ⟨r8, F9, hg7, hf⟩ := x_b2E hf
      refine x_cA (As := [.int v4]) (rest := []) (st' := [.int r8]) (ws' := (wX6 cI cC cZ h a F9 G6)) S I (tX6_goesWell l D cI cC cZ h a F5 G6 v4 (r8, F9) hg7) (cwV 1 S.2.2.2.2 gX6_isSo_X6_goesWell rfl rfl rfl (by decide +kernel) ⟨Nat.le_of_ble_eq_true rfl, Nat.le_of_ble_eq_true rfl⟩) 0 5 rfl rfl rfl rfl hl rfl (Nat.le_of_ble_eq_true rfl) ⟨Nat.zero_le _, Nat.zero_le _⟩ rfl dX6_isSo_81 (fun H locs I => ?_)
      refine lv_if_ne (tgt := 89) S.1 S.2.1 dX6_isSo_84 (by decide) (fun c10 => ?_) (fun c10 => ?_)
      · replace hf := x_ifF hf c10
        refine lv_aload_n S.1 S.2.1 dX6_isSo_89 rfl (lv_at hl 0 rfl) ?_
        refine lv_iload_n S.1 S.2.1 dX6_isSo_90 rfl (lv_at hl 1 rfl) ?_
        obtain ⟨G12, hg11, hf⟩ := x_b1E hf
        refine x_cA (As := [.int p1]) (rest := []) (st' := []) (ws' := (wX6 cI cC cZ h a F9 G12)) S I (tX6_fill l D cI cC cZ h a F9 G6 p1 G12 hg11) (cwV 1 S.2.2.2.2 gX6_isSo_X6_fill rfl rfl rfl (by decide +kernel) ⟨Nat.le_of_ble_eq_true rfl, Nat.le_of_ble_eq_true rfl⟩) 0 5 rfl rfl rfl rfl hl rfl (Nat.le_of_ble_eq_true rfl) ⟨Nat.zero_le _, Nat.zero_le _⟩ rfl dX6_isSo_91 (fun H locs I => ?_)
        refine lv_aload_n S.1 S.2.1 dX6_isSo_94 rfl (lv_at hl 0 rfl) ?_
        refine x_get (C := RX6) (T := TX6) (N := 32) (ci := 5) (v := .ref (a 17)) S kX6 rfl I 0 17 rfl (by decide) (by decide +kernel) rfl dX6_isSo_95 ?_
        refine lv_bipush (v := 125) S.1 S.2.1 dX6_isSo_98 (by decide) ?_
        refine lv_aload_n S.1 S.2.1 dX6_isSo_100 rfl (lv_at hl 0 rfl) ?_
        refine x_get (C := RX6) (T := TX6) (N := 32) (ci := 5) (v := .int (F9 3)) S kX6 rfl I 0 3 rfl (by decide) (by decide +kernel) rfl dX6_isSo_101 ?_
        refine lv_iconst (v := 1) S.1 S.2.1 dX6_isSo_104 (by decide) ?_
        refine lv_isub S.1 S.2.1 dX6_isSo_105 ?_
        refine lv_imul S.1 S.2.1 dX6_isSo_106 ?_
        refine lv_iload_n S.1 S.2.1 dX6_isSo_107 rfl (lv_at hl 2 rfl) ?_
        refine lv_iadd S.1 S.2.1 dX6_isSo_108 ?_
        refine lv_iconst (v := 5) S.1 S.2.1 dX6_isSo_109 (by decide) ?_
        refine lv_iload_n S.1 S.2.1 dX6_isSo_110 rfl (lv_at hl 3 rfl) ?_
        refine lv_imul S.1 S.2.1 dX6_isSo_111 ?_
        refine lv_iadd S.1 S.2.1 dX6_isSo_112 ?_
        refine lv_bipush (v := 25) S.1 S.2.1 dX6_isSo_113 (by decide) ?_
        refine lv_iload S.1 S.2.1 dX6_isSo_115 (lv_at hl 4 rfl) ?_
        refine lv_imul S.1 S.2.1 dX6_isSo_117 ?_
        refine lv_iadd S.1 S.2.1 dX6_isSo_118 ?_
        obtain ⟨hi13, hf⟩ := x_ldE hf
        refine x_zald (f := (G12 17)) S I 13 2 rfl rfl hi13 dX6_isSo_119 ?_
        exact x_ri E rfl rfl hf rfl I rfl dX6_isSo_120
      · replace hf := x_ifT hf c10
        refine lv_iconst (v := 0) S.1 S.2.1 dX6_isSo_87 (by decide) ?_
        exact x_ri E rfl x_n0 hf rfl I rfl dX6_isSo_88
    refine lv_if_ne (tgt := 60) S.1 S.2.1 dX6_isSo_53 (by decide) (fun c14 => ?_) (fun c14 => ?_)
    · replace hf := x_ifF hf c14
      refine lv_aload_n S.1 S.2.1 dX6_isSo_60 rfl (lv_at hl 1 rfl) ?_
      obtain ⟨r16, F17, G18, hg15, hf⟩ := x_b3E hf
      refine x_cA (As := []) (rest := [.ref h]) (st' := [.int r16, .ref h]) (ws' := (wX6 cI cC cZ h a F17 G18)) S I (tX6_isFormula l D cI cC cZ h a F G (r16, F17, G18) hg15) (cwV 0 S.2.2.2.2 gX6_isSo_X6_isFormula rfl rfl rfl (by decide +kernel) ⟨Nat.le_of_ble_eq_true rfl, Nat.le_of_ble_eq_true rfl⟩) 0 5 rfl rfl rfl rfl hl rfl (Nat.le_of_ble_eq_true rfl) ⟨Nat.zero_le _, Nat.zero_le _⟩ rfl dX6_isSo_61 (fun H locs I => ?_)
      have hj80 : ∀  (H : Heap) (locs : List Loc) (ls : Array Slot), (fX6_isSo_j80 F17 G18 p1 p2 p3 p4) = some res → xI D A s (wX6 cI cC cZ h a F17 G18) (xT cI cC cZ) H locs → lv_has ls 6 [(0, .ref h), (1, .int p1), (2, .int p2), (3, .int p3), (4, .int p4)] → W p l e (headSpec wsX6_isSo rmX6_isSo).room s m args below meth c H locs 0 0 Q (F0 m 80 ls [.ref h]) := by
        intro  H locs ls hf I hl
        replace hf := (fX6_isSo_j80_e _ _ _ _ _ _).symm.trans hf
        refine lv_iconst (v := 2) S.1 S.2.1 dX6_isSo_80 (by decide) ?_
        exact hj81 2 F17 G18 _ _ _ hf I (lv_sub hl [0, 1, 2, 3, 4] rfl)
      refine lv_if_eq (tgt := 80) S.1 S.2.1 dX6_isSo_64 (by decide) (fun c19 => ?_) (fun c19 => ?_)
      · replace hf := x_ifT hf c19
        exact hj80 _ _ _ hf I (lv_sub hl [1, 2, 3, 4, 5] rfl)
      · replace hf := x_ifF hf c19
        refine lv_aload_n S.1 S.2.1 dX6_isSo_67 rfl (lv_at hl 1 rfl) ?_
        obtain ⟨r21, hg20, hf⟩ := x_b1E hf
        refine x_cA (As := []) (rest := [.ref h]) (st' := [.int r21, .ref h]) (ws' := (wX6 cI cC cZ h a F17 G18)) S I (tX6_quantifiers l D cI cC cZ h a F17 G18 r21 hg20) (cwV 0 S.2.2.2.2 gX6_isSo_X6_quantifiers rfl rfl rfl (by decide +kernel) ⟨Nat.le_of_ble_eq_true rfl, Nat.le_of_ble_eq_true rfl⟩) 0 5 rfl rfl rfl rfl hl rfl (Nat.le_of_ble_eq_true rfl) ⟨Nat.zero_le _, Nat.zero_le _⟩ rfl dX6_isSo_68 (fun H locs I => ?_)
        refine lv_bipush (v := 6) S.1 S.2.1 dX6_isSo_71 (by decide) ?_
        refine lv_icmp_gt (tgt := 80) S.1 S.2.1 dX6_isSo_73 (by decide) (fun c22 => ?_) (fun c22 => ?_)
        · replace hf := x_ifT hf c22
          exact hj80 _ _ _ hf I (lv_sub hl [1, 2, 3, 4, 5] rfl)
        · replace hf := x_ifF hf c22
          refine lv_iconst (v := 0) S.1 S.2.1 dX6_isSo_76 (by decide) ?_
          refine lv_goto (tgt := 81) S.1 S.2.1 dX6_isSo_77 (by decide) ?_
          exact hj81 0 F17 G18 _ _ _ hf I (lv_sub hl [1, 2, 3, 4, 5] rfl)
    · replace hf := x_ifT hf c14
      refine lv_iconst (v := 1) S.1 S.2.1 dX6_isSo_56 (by decide) ?_
      refine lv_goto (tgt := 81) S.1 S.2.1 dX6_isSo_57 (by decide) ?_
      exact hj81 1 F G _ _ _ hf I (lv_sub hl [1, 2, 3, 4, 5] rfl)
  have hj47 : ∀  (H : Heap) (locs : List Loc) (ls : Array Slot), (fX6_isSo_j47 F G p1 p2 p3 p4) = some res → xI D A s (wX6 cI cC cZ h a F G) (xT cI cC cZ) H locs → lv_has ls 6 [(0, .ref h), (1, .int p1), (2, .int p2), (3, .int p3), (4, .int p4)] → W p l e (headSpec wsX6_isSo rmX6_isSo).room s m args below meth c H locs 0 0 Q (F0 m 47 ls []) := by
    intro  H locs ls hf I hl
    replace hf := (fX6_isSo_j47_e _ _ _ _ _ _).symm.trans hf
    refine lv_iconst (v := 0) S.1 S.2.1 dX6_isSo_47 (by decide) ?_
    exact hj48 0 _ _ _ hf I (lv_sub hl [0, 1, 2, 3, 4] rfl)
  refine lv_if_eq (tgt := 47) S.1 S.2.1 dX6_isSo_6 (by decide) (fun c23 => ?_) (fun c23 => ?_)
  · replace hf := x_ifT hf c23
    exact hj47 _ _ _ hf I (lv_sub hl [0, 1, 2, 3, 4] rfl)
  · replace hf := x_ifF hf c23
    refine lv_iload_n S.1 S.2.1 dX6_isSo_9 rfl (lv_at hl 2 rfl) ?_
    refine lv_iconst (v := 0) S.1 S.2.1 dX6_isSo_10 (by decide) ?_
    refine lv_iload_n S.1 S.2.1 dX6_isSo_11 rfl (lv_at hl 1 rfl) ?_
    refine lv_iconst (v := 1) S.1 S.2.1 dX6_isSo_12 (by decide) ?_
    refine lv_isub S.1 S.2.1 dX6_isSo_13 ?_
    obtain ⟨r25, hg24, hf⟩ := x_b1E hf
    refine x_c0 (As := [.int p2, .int 0, .int (p1 - 1)]) (rest := []) (st' := [.int r25]) S I rfl (tX6_in l D cI cC cZ p2 0 (p1 - 1) r25 hg24) (va_cwS 3 S.2.2.2.2 gX6_isSo_X6_in rfl rfl rfl (by decide +kernel) ⟨Nat.le_of_ble_eq_true rfl, Nat.le_of_ble_eq_true rfl⟩) hl rfl (Nat.le_of_ble_eq_true rfl) ⟨Nat.zero_le _, Nat.zero_le _⟩ rfl dX6_isSo_14 (fun H locs I => ?_)
    refine lv_if_eq (tgt := 47) S.1 S.2.1 dX6_isSo_17 (by decide) (fun c26 => ?_) (fun c26 => ?_)
    · replace hf := x_ifT hf c26
      exact hj47 _ _ _ hf I (lv_sub hl [0, 1, 2, 3, 4] rfl)
    · replace hf := x_ifF hf c26
      refine lv_iload_n S.1 S.2.1 dX6_isSo_20 rfl (lv_at hl 3 rfl) ?_
      refine lv_iconst (v := 0) S.1 S.2.1 dX6_isSo_21 (by decide) ?_
      refine lv_iload_n S.1 S.2.1 dX6_isSo_22 rfl (lv_at hl 1 rfl) ?_
      refine lv_iconst (v := 1) S.1 S.2.1 dX6_isSo_23 (by decide) ?_
      refine lv_isub S.1 S.2.1 dX6_isSo_24 ?_
      obtain ⟨r28, hg27, hf⟩ := x_b1E hf
      refine x_c0 (As := [.int p3, .int 0, .int (p1 - 1)]) (rest := []) (st' := [.int r28]) S I rfl (tX6_in l D cI cC cZ p3 0 (p1 - 1) r28 hg27) (va_cwS 3 S.2.2.2.2 gX6_isSo_X6_in rfl rfl rfl (by decide +kernel) ⟨Nat.le_of_ble_eq_true rfl, Nat.le_of_ble_eq_true rfl⟩) hl rfl (Nat.le_of_ble_eq_true rfl) ⟨Nat.zero_le _, Nat.zero_le _⟩ rfl dX6_isSo_25 (fun H locs I => ?_)
      refine lv_if_eq (tgt := 47) S.1 S.2.1 dX6_isSo_28 (by decide) (fun c29 => ?_) (fun c29 => ?_)
      · replace hf := x_ifT hf c29
        exact hj47 _ _ _ hf I (lv_sub hl [0, 1, 2, 3, 4] rfl)
      · replace hf := x_ifF hf c29
        refine lv_iload S.1 S.2.1 dX6_isSo_31 (lv_at hl 4 rfl) ?_
        refine lv_iconst (v := 0) S.1 S.2.1 dX6_isSo_33 (by decide) ?_
        refine lv_iload_n S.1 S.2.1 dX6_isSo_34 rfl (lv_at hl 1 rfl) ?_
        refine lv_iconst (v := 1) S.1 S.2.1 dX6_isSo_35 (by decide) ?_
        refine lv_isub S.1 S.2.1 dX6_isSo_36 ?_
        obtain ⟨r31, hg30, hf⟩ := x_b1E hf
        refine x_c0 (As := [.int p4, .int 0, .int (p1 - 1)]) (rest := []) (st' := [.int r31]) S I rfl (tX6_in l D cI cC cZ p4 0 (p1 - 1) r31 hg30) (va_cwS 3 S.2.2.2.2 gX6_isSo_X6_in rfl rfl rfl (by decide +kernel) ⟨Nat.le_of_ble_eq_true rfl, Nat.le_of_ble_eq_true rfl⟩) hl rfl (Nat.le_of_ble_eq_true rfl) ⟨Nat.zero_le _, Nat.zero_le _⟩ rfl dX6_isSo_37 (fun H locs I => ?_)
        refine lv_if_eq (tgt := 47) S.1 S.2.1 dX6_isSo_40 (by decide) (fun c32 => ?_) (fun c32 => ?_)
        · replace hf := x_ifT hf c32
          exact hj47 _ _ _ hf I (lv_sub hl [0, 1, 2, 3, 4] rfl)
        · replace hf := x_ifF hf c32
          refine lv_iconst (v := 1) S.1 S.2.1 dX6_isSo_43 (by decide) ?_
          refine lv_goto (tgt := 48) S.1 S.2.1 dX6_isSo_44 (by decide) ?_
          exact hj48 1 _ _ _ hf I (lv_sub hl [0, 1, 2, 3, 4] rfl)
set_option maxHeartbeats 4000000 in
set_option maxRecDepth 100000 in
theorem tX6_principle (l : Launch) (D : va_G) (cI cC cZ : ClassId) (h : Nat) (a : Nat → Nat) (F : xF) (G : xG) (res : Int32 × xF × xG) (hf : fX6_principle F G = some res) : xC l yX6_principle wsX6_principle rmX6_principle D [.ref h] (wX6 cI cC cZ h a F G) (fun t => (wX6 cI cC cZ h a t.2.1 t.2.2)) (xT cI cC cZ) (fun t => some (.int t.1)) res := by
  have kX6 : ∀ w ∈ u_ws RX6 TX6 32, w ∈ wsX6_principle := by decide +kernel
  refine x_of (cc := cX6_principle) (maxL := 2) (ret := (some .int)) (by decide) rfl (Nat.le_of_ble_eq_true rfl) ?_
  intro p e s m args below meth c A Q ls S I E hl
  replace hl : lv_has ls 2 [(0, .ref h)] := hl
  replace hf := (fX6_principle_e _ _).symm.trans hf
  refine lv_aload_n S.1 S.2.1 dX6_principle_0 rfl (lv_at hl 0 rfl) ?_
  obtain ⟨r2, F3, G4, hg1, hf⟩ := x_b3E hf
  refine x_cA (As := []) (rest := []) (st' := [.int r2]) (ws' := (wX6 cI cC cZ h a F3 G4)) S I (tX6_isFormula l D cI cC cZ h a F G (r2, F3, G4) hg1) (cwV 0 S.2.2.2.2 gX6_principle_X6_isFormula rfl rfl rfl (by decide +kernel) ⟨Nat.le_of_ble_eq_true rfl, Nat.le_of_ble_eq_true rfl⟩) 0 5 rfl rfl rfl rfl hl rfl (Nat.le_of_ble_eq_true rfl) ⟨Nat.zero_le _, Nat.zero_le _⟩ rfl dX6_principle_1 (fun H locs I => ?_)
  refine lv_istore_n (lv' := [(1, .int r2), (0, .ref h)]) S.1 S.2.1 dX6_principle_4 rfl hl (by decide) rfl (fun ls hl => ?_)
  refine lv_aload_n S.1 S.2.1 dX6_principle_5 rfl (lv_at hl 1 rfl) ?_
  refine lv_iload_n S.1 S.2.1 dX6_principle_6 rfl (lv_at hl 0 rfl) ?_
  have hj38 : ∀ (v5 : Int32) (H : Heap) (locs : List Loc) (ls : Array Slot), (fX6_principle_j38 F3 G4) v5 = some res → xI D A s (wX6 cI cC cZ h a F3 G4) (xT cI cC cZ) H locs → lv_has ls 2 [(0, .ref h)] → W p l e (headSpec wsX6_principle rmX6_principle).room s m args below meth c H locs 0 0 Q (F0 m 38 ls [.int v5, .ref h]) := by
    intro v5 H locs ls hf I hl
    replace hf := (fX6_principle_j38_e _ _ _).symm.trans hf
    obtain ⟨r7, F8, hg6, hf⟩ := x_b2E hf
    refine x_cA (As := [.int v5]) (rest := []) (st' := [.int r7]) (ws' := (wX6 cI cC cZ h a F8 G4)) S I (tX6_goesWell l D cI cC cZ h a F3 G4 v5 (r7, F8) hg6) (cwV 1 S.2.2.2.2 gX6_principle_X6_goesWell rfl rfl rfl (by decide +kernel) ⟨Nat.le_of_ble_eq_true rfl, Nat.le_of_ble_eq_true rfl⟩) 0 5 rfl rfl rfl rfl hl rfl (Nat.le_of_ble_eq_true rfl) ⟨Nat.zero_le _, Nat.zero_le _⟩ rfl dX6_principle_38 (fun H locs I => ?_)
    refine lv_if_ne (tgt := 46) S.1 S.2.1 dX6_principle_41 (by decide) (fun c9 => ?_) (fun c9 => ?_)
    · replace hf := x_ifF hf c9
      refine lv_aload_n S.1 S.2.1 dX6_principle_46 rfl (lv_at hl 0 rfl) ?_
      refine x_get (C := RX6) (T := TX6) (N := 32) (ci := 5) (v := .ref (a 19)) S kX6 rfl I 0 19 rfl (by decide) (by decide +kernel) rfl dX6_principle_47 ?_
      refine lv_aload_n S.1 S.2.1 dX6_principle_50 rfl (lv_at hl 0 rfl) ?_
      refine x_get (C := RX6) (T := TX6) (N := 32) (ci := 5) (v := .int (F8 18)) S kX6 rfl I 0 18 rfl (by decide) (by decide +kernel) rfl dX6_principle_51 ?_
      refine lv_aload_n S.1 S.2.1 dX6_principle_54 rfl (lv_at hl 0 rfl) ?_
      refine x_get (C := RX6) (T := TX6) (N := 32) (ci := 5) (v := .ref (a 9)) S kX6 rfl I 0 9 rfl (by decide) (by decide +kernel) rfl dX6_principle_55 ?_
      refine lv_aload_n S.1 S.2.1 dX6_principle_58 rfl (lv_at hl 0 rfl) ?_
      refine x_get (C := RX6) (T := TX6) (N := 32) (ci := 5) (v := .int (F8 3)) S kX6 rfl I 0 3 rfl (by decide) (by decide +kernel) rfl dX6_principle_59 ?_
      refine lv_iconst (v := 1) S.1 S.2.1 dX6_principle_62 (by decide) ?_
      refine lv_isub S.1 S.2.1 dX6_principle_63 ?_
      obtain ⟨hi10, hf⟩ := x_ldE hf
      refine x_iald (f := (G4 9)) S I 7 0 rfl rfl hi10 dX6_principle_64 ?_
      obtain ⟨hi11, hf⟩ := x_ldE hf
      refine x_iast (f := (G4 19)) (ws' := (wX6 cI cC cZ h a F8 (va_up G4 19 (upd (G4 19) (F8 18).toNatClampNeg ((G4 9) ((F8 3) - 1).toNatClampNeg))))) S I 14 0 rfl rfl hi11 rfl dX6_principle_65 (fun H locs I => ?_)
      refine lv_aload_n S.1 S.2.1 dX6_principle_66 rfl (lv_at hl 0 rfl) ?_
      refine x_get (C := RX6) (T := TX6) (N := 32) (ci := 5) (v := .ref (a 20)) S kX6 rfl I 0 20 rfl (by decide) (by decide +kernel) rfl dX6_principle_67 ?_
      refine lv_aload_n S.1 S.2.1 dX6_principle_70 rfl (lv_at hl 0 rfl) ?_
      refine x_get (C := RX6) (T := TX6) (N := 32) (ci := 5) (v := .int (F8 18)) S kX6 rfl I 0 18 rfl (by decide) (by decide +kernel) rfl dX6_principle_71 ?_
      refine lv_aload_n S.1 S.2.1 dX6_principle_74 rfl (lv_at hl 0 rfl) ?_
      refine x_get (C := RX6) (T := TX6) (N := 32) (ci := 5) (v := .ref (a 10)) S kX6 rfl I 0 10 rfl (by decide) (by decide +kernel) rfl dX6_principle_75 ?_
      refine lv_aload_n S.1 S.2.1 dX6_principle_78 rfl (lv_at hl 0 rfl) ?_
      refine x_get (C := RX6) (T := TX6) (N := 32) (ci := 5) (v := .int (F8 3)) S kX6 rfl I 0 3 rfl (by decide) (by decide +kernel) rfl dX6_principle_79 ?_
      refine lv_iconst (v := 1) S.1 S.2.1 dX6_principle_82 (by decide) ?_
      refine lv_isub S.1 S.2.1 dX6_principle_83 ?_
      obtain ⟨hi12, hf⟩ := x_ldE hf
      refine x_iald (f := (G4 10)) S I 8 0 rfl rfl hi12 dX6_principle_84 ?_
      obtain ⟨hi13, hf⟩ := x_ldE hf
      refine x_iast (f := (G4 20)) (ws' := (wX6 cI cC cZ h a F8 (va_up (va_up G4 19 (upd (G4 19) (F8 18).toNatClampNeg ((G4 9) ((F8 3) - 1).toNatClampNeg))) 20 (upd (G4 20) (F8 18).toNatClampNeg ((G4 10) ((F8 3) - 1).toNatClampNeg))))) S I 15 0 rfl rfl hi13 rfl dX6_principle_85 (fun H locs I => ?_)
      refine lv_aload_n S.1 S.2.1 dX6_principle_86 rfl (lv_at hl 0 rfl) ?_
      refine lv_iconst (v := 0) S.1 S.2.1 dX6_principle_87 (by decide) ?_
      refine x_put (C := RX6) (T := TX6) (N := 32) (ci := 5) (ws' := (wX6 cI cC cZ h a (va_up F8 1 0) (va_up (va_up G4 19 (upd (G4 19) (F8 18).toNatClampNeg ((G4 9) ((F8 3) - 1).toNatClampNeg))) 20 (upd (G4 20) (F8 18).toNatClampNeg ((G4 10) ((F8 3) - 1).toNatClampNeg))))) S kX6 tyX6 tyX6_ok nmX6 rfl I 0 1 rfl (by decide) (by decide +kernel) rfl rfl (Nat.le_of_ble_eq_true rfl) rfl dX6_principle_88 (fun H locs I => ?_)
      refine lv_aload_n S.1 S.2.1 dX6_principle_91 rfl (lv_at hl 0 rfl) ?_
      refine lv_dup S.1 S.2.1 dX6_principle_92 rfl ?_
      refine x_get (C := RX6) (T := TX6) (N := 32) (ci := 5) (v := .int (F8 18)) S kX6 rfl I 0 18 rfl (by decide) (by decide +kernel) rfl dX6_principle_93 ?_
      refine lv_iconst (v := 1) S.1 S.2.1 dX6_principle_96 (by decide) ?_
      refine lv_iadd S.1 S.2.1 dX6_principle_97 ?_
      refine x_put (C := RX6) (T := TX6) (N := 32) (ci := 5) (ws' := (wX6 cI cC cZ h a (va_up (va_up F8 1 0) 18 ((F8 18) + 1)) (va_up (va_up G4 19 (upd (G4 19) (F8 18).toNatClampNeg ((G4 9) ((F8 3) - 1).toNatClampNeg))) 20 (upd (G4 20) (F8 18).toNatClampNeg ((G4 10) ((F8 3) - 1).toNatClampNeg))))) S kX6 tyX6 tyX6_ok nmX6 rfl I 0 18 rfl (by decide) (by decide +kernel) rfl rfl (Nat.le_of_ble_eq_true rfl) rfl dX6_principle_98 (fun H locs I => ?_)
      refine lv_aload_n S.1 S.2.1 dX6_principle_101 rfl (lv_at hl 0 rfl) ?_
      refine x_get (C := RX6) (T := TX6) (N := 32) (ci := 5) (v := .int ((F8 18) + 1)) S kX6 rfl I 0 18 rfl (by decide) (by decide +kernel) rfl dX6_principle_102 ?_
      refine lv_iconst (v := 1) S.1 S.2.1 dX6_principle_105 (by decide) ?_
      refine lv_isub S.1 S.2.1 dX6_principle_106 ?_
      exact x_ri E rfl rfl hf rfl I rfl dX6_principle_107
    · replace hf := x_ifT hf c9
      refine lv_iconst (v := 0) S.1 S.2.1 dX6_principle_44 (by decide) ?_
      exact x_ri E rfl rfl hf rfl I rfl dX6_principle_45
  have hj37 : ∀  (H : Heap) (locs : List Loc) (ls : Array Slot), (fX6_principle_j37 F3 G4) = some res → xI D A s (wX6 cI cC cZ h a F3 G4) (xT cI cC cZ) H locs → lv_has ls 2 [(0, .ref h)] → W p l e (headSpec wsX6_principle rmX6_principle).room s m args below meth c H locs 0 0 Q (F0 m 37 ls [.ref h]) := by
    intro  H locs ls hf I hl
    replace hf := (fX6_principle_j37_e _ _).symm.trans hf
    refine lv_iconst (v := 1) S.1 S.2.1 dX6_principle_37 (by decide) ?_
    exact hj38 1 _ _ _ hf I (lv_sub hl [0] rfl)
  refine lv_if_eq (tgt := 37) S.1 S.2.1 dX6_principle_7 (by decide) (fun c14 => ?_) (fun c14 => ?_)
  · replace hf := x_ifT hf c14
    exact hj37 _ _ _ hf I (lv_sub hl [1] rfl)
  · replace hf := x_ifF hf c14
    refine lv_aload_n S.1 S.2.1 dX6_principle_10 rfl (lv_at hl 1 rfl) ?_
    refine x_get (C := RX6) (T := TX6) (N := 32) (ci := 5) (v := .ref (a 11)) S kX6 rfl I 0 11 rfl (by decide) (by decide +kernel) rfl dX6_principle_11 ?_
    refine lv_aload_n S.1 S.2.1 dX6_principle_14 rfl (lv_at hl 1 rfl) ?_
    refine x_get (C := RX6) (T := TX6) (N := 32) (ci := 5) (v := .int (F3 3)) S kX6 rfl I 0 3 rfl (by decide) (by decide +kernel) rfl dX6_principle_15 ?_
    refine lv_iconst (v := 1) S.1 S.2.1 dX6_principle_18 (by decide) ?_
    refine lv_isub S.1 S.2.1 dX6_principle_19 ?_
    obtain ⟨hi15, hf⟩ := x_ldE hf
    refine x_iald (f := (G4 11)) S I 9 0 rfl rfl hi15 dX6_principle_20 ?_
    refine lv_if_ne (tgt := 37) S.1 S.2.1 dX6_principle_21 (by decide) (fun c16 => ?_) (fun c16 => ?_)
    · replace hf := x_ifF hf c16
      exact hj37 _ _ _ hf I (lv_sub hl [1] rfl)
    · replace hf := x_ifT hf c16
      refine lv_aload_n S.1 S.2.1 dX6_principle_24 rfl (lv_at hl 1 rfl) ?_
      refine x_get (C := RX6) (T := TX6) (N := 32) (ci := 5) (v := .int (F3 18)) S kX6 rfl I 0 18 rfl (by decide) (by decide +kernel) rfl dX6_principle_25 ?_
      refine lv_bipush (v := 10) S.1 S.2.1 dX6_principle_28 (by decide) ?_
      refine lv_icmp_ge (tgt := 37) S.1 S.2.1 dX6_principle_30 (by decide) (fun c17 => ?_) (fun c17 => ?_)
      · replace hf := x_ifT hf c17
        exact hj37 _ _ _ hf I (lv_sub hl [1] rfl)
      · replace hf := x_ifF hf c17
        refine lv_iconst (v := 0) S.1 S.2.1 dX6_principle_33 (by decide) ?_
        refine lv_goto (tgt := 38) S.1 S.2.1 dX6_principle_34 (by decide) ?_
        exact hj38 0 _ _ _ hf I (lv_sub hl [1] rfl)
set_option maxHeartbeats 4000000 in
set_option maxRecDepth 100000 in
theorem tX6_isPrinciple (l : Launch) (D : va_G) (cI cC cZ : ClassId) (h : Nat) (a : Nat → Nat) (F : xF) (G : xG) (p1 : Int32) (res : Int32) (hf : fX6_isPrinciple F p1 = some res) : xC l yX6_isPrinciple wsX6_isPrinciple rmX6_isPrinciple D [.ref h, .int p1] (wX6 cI cC cZ h a F G) (fun _ => (wX6 cI cC cZ h a F G)) (xT cI cC cZ) (fun t => some (.int t)) res := by
  have kX6 : ∀ w ∈ u_ws RX6 TX6 32, w ∈ wsX6_isPrinciple := by decide +kernel
  refine x_of (cc := cX6_isPrinciple) (maxL := 2) (ret := (some .boolean)) (by decide) rfl (Nat.le_of_ble_eq_true rfl) ?_
  intro p e s m args below meth c A Q ls S I E hl
  replace hl : lv_has ls 2 [(0, .ref h), (1, .int p1)] := hl
  replace hf := (fX6_isPrinciple_e _ _).symm.trans hf
  refine lv_iload_n S.1 S.2.1 dX6_isPrinciple_0 rfl (lv_at hl 1 rfl) ?_
  refine lv_iconst (v := 0) S.1 S.2.1 dX6_isPrinciple_1 (by decide) ?_
  refine lv_aload_n S.1 S.2.1 dX6_isPrinciple_2 rfl (lv_at hl 0 rfl) ?_
  refine x_get (C := RX6) (T := TX6) (N := 32) (ci := 5) (v := .int (F 18)) S kX6 rfl I 0 18 rfl (by decide) (by decide +kernel) rfl dX6_isPrinciple_3 ?_
  refine lv_iconst (v := 1) S.1 S.2.1 dX6_isPrinciple_6 (by decide) ?_
  refine lv_isub S.1 S.2.1 dX6_isPrinciple_7 ?_
  obtain ⟨r2, hg1, hf⟩ := x_b1E hf
  refine x_c0 (As := [.int p1, .int 0, .int ((F 18) - 1)]) (rest := []) (st' := [.int r2]) S I rfl (tX6_in l D cI cC cZ p1 0 ((F 18) - 1) r2 hg1) (va_cwS 3 S.2.2.2.2 gX6_isPrinciple_X6_in rfl rfl rfl (by decide +kernel) ⟨Nat.le_of_ble_eq_true rfl, Nat.le_of_ble_eq_true rfl⟩) hl rfl (Nat.le_of_ble_eq_true rfl) ⟨Nat.zero_le _, Nat.zero_le _⟩ rfl dX6_isPrinciple_8 (fun H locs I => ?_)
  exact x_ri E rfl rfl hf rfl I rfl dX6_isPrinciple_11
set_option maxHeartbeats 4000000 in
set_option maxRecDepth 100000 in
theorem tX6_isSet (l : Launch) (D : va_G) (cI cC cZ : ClassId) (h : Nat) (a : Nat → Nat) (F : xF) (G : xG) (p1 : Int32) (res : Int32) (hf : fX6_isSet F p1 = some res) : xC l yX6_isSet wsX6_isSet rmX6_isSet D [.ref h, .int p1] (wX6 cI cC cZ h a F G) (fun _ => (wX6 cI cC cZ h a F G)) (xT cI cC cZ) (fun t => some (.int t)) res := by
  have kX6 : ∀ w ∈ u_ws RX6 TX6 32, w ∈ wsX6_isSet := by decide +kernel
  refine x_of (cc := cX6_isSet) (maxL := 2) (ret := (some .boolean)) (by decide) rfl (Nat.le_of_ble_eq_true rfl) ?_
  intro p e s m args below meth c A Q ls S I E hl
  replace hl : lv_has ls 2 [(0, .ref h), (1, .int p1)] := hl
  replace hf := (fX6_isSet_e _ _).symm.trans hf
  refine lv_iload_n S.1 S.2.1 dX6_isSet_0 rfl (lv_at hl 1 rfl) ?_
  refine lv_iconst (v := 0) S.1 S.2.1 dX6_isSet_1 (by decide) ?_
  refine lv_iconst (v := 1) S.1 S.2.1 dX6_isSet_2 (by decide) ?_
  refine lv_aload_n S.1 S.2.1 dX6_isSet_3 rfl (lv_at hl 0 rfl) ?_
  refine x_get (C := RX6) (T := TX6) (N := 32) (ci := 5) (v := .int (F 18)) S kX6 rfl I 0 18 rfl (by decide) (by decide +kernel) rfl dX6_isSet_4 ?_
  refine lv_ishl S.1 S.2.1 dX6_isSet_7 ?_
  refine lv_iconst (v := 1) S.1 S.2.1 dX6_isSet_8 (by decide) ?_
  refine lv_isub S.1 S.2.1 dX6_isSet_9 ?_
  obtain ⟨r2, hg1, hf⟩ := x_b1E hf
  refine x_c0 (As := [.int p1, .int 0, .int ((x_shl 1 (F 18)) - 1)]) (rest := []) (st' := [.int r2]) S I rfl (tX6_in l D cI cC cZ p1 0 ((x_shl 1 (F 18)) - 1) r2 hg1) (va_cwS 3 S.2.2.2.2 gX6_isSet_X6_in rfl rfl rfl (by decide +kernel) ⟨Nat.le_of_ble_eq_true rfl, Nat.le_of_ble_eq_true rfl⟩) hl rfl (Nat.le_of_ble_eq_true rfl) ⟨Nat.zero_le _, Nat.zero_le _⟩ rfl dX6_isSet_10 (fun H locs I => ?_)
  exact x_ri E rfl rfl hf rfl I rfl dX6_isSet_13
set_option maxHeartbeats 4000000 in
set_option maxRecDepth 100000 in
theorem tX6_breaks (l : Launch) (D : va_G) (cI cC cZ : ClassId) (p1 p2 p3 : Int32) (res : Int32) (hf : fX6_breaks p1 p2 p3 = some res) : xC l yX6_breaks wsX6_breaks rmX6_breaks D [.int p1, .int p2, .int p3] [] (fun _ => []) (xT cI cC cZ) (fun t => some (.int t)) res := by
  refine x_of (cc := cX6_breaks) (maxL := 3) (ret := (some .boolean)) (by decide) rfl (Nat.le_of_ble_eq_true rfl) ?_
  intro p e s m args below meth c A Q ls S I E hl
  replace hl : lv_has ls 3 [(0, .int p1), (1, .int p2), (2, .int p3)] := hl
  replace hf := (fX6_breaks_e _ _ _).symm.trans hf
  refine lv_iload_n S.1 S.2.1 dX6_breaks_0 rfl (lv_at hl 1 rfl) ?_
  refine lv_iload_n S.1 S.2.1 dX6_breaks_1 rfl (lv_at hl 0 rfl) ?_
  refine lv_iconst (v := (-1)) S.1 S.2.1 dX6_breaks_2 (by decide) ?_
  refine lv_ixor S.1 S.2.1 dX6_breaks_3 ?_
  refine lv_iand S.1 S.2.1 dX6_breaks_4 ?_
  refine lv_if_ne (tgt := 20) S.1 S.2.1 dX6_breaks_5 (by decide) (fun c1 => ?_) (fun c1 => ?_)
  · replace hf := x_ifF hf c1
    refine lv_iconst (v := 0) S.1 S.2.1 dX6_breaks_20 (by decide) ?_
    exact x_ri E rfl x_n0 hf rfl I rfl dX6_breaks_21
  · replace hf := x_ifT hf c1
    refine lv_iload_n S.1 S.2.1 dX6_breaks_8 rfl (lv_at hl 0 rfl) ?_
    refine lv_iload_n S.1 S.2.1 dX6_breaks_9 rfl (lv_at hl 2 rfl) ?_
    refine lv_ishr S.1 S.2.1 dX6_breaks_10 ?_
    refine lv_iconst (v := 1) S.1 S.2.1 dX6_breaks_11 (by decide) ?_
    refine lv_iand S.1 S.2.1 dX6_breaks_12 ?_
    refine lv_if_ne (tgt := 20) S.1 S.2.1 dX6_breaks_13 (by decide) (fun c2 => ?_) (fun c2 => ?_)
    · replace hf := x_ifF hf c2
      refine lv_iconst (v := 0) S.1 S.2.1 dX6_breaks_20 (by decide) ?_
      exact x_ri E rfl x_n0 hf rfl I rfl dX6_breaks_21
    · replace hf := x_ifT hf c2
      refine lv_iconst (v := 1) S.1 S.2.1 dX6_breaks_16 (by decide) ?_
      refine lv_goto (tgt := 21) S.1 S.2.1 dX6_breaks_17 (by decide) ?_
      exact x_ri E rfl x_n1 hf rfl I rfl dX6_breaks_21
set_option maxHeartbeats 4000000 in
set_option maxRecDepth 100000 in
theorem tX6_rule (l : Launch) (D : va_G) (cI cC cZ : ClassId) (h : Nat) (a : Nat → Nat) (F : xF) (G : xG) (p1 p2 : Int32) (res : Int32 × xF × xG) (hf : fX6_rule F G p1 p2 = some res) : xC l yX6_rule wsX6_rule rmX6_rule D [.ref h, .int p1, .int p2] (wX6 cI cC cZ h a F G) (fun t => (wX6 cI cC cZ h a t.2.1 t.2.2)) (xT cI cC cZ) (fun t => some (.int t.1)) res := by
  have kX6 : ∀ w ∈ u_ws RX6 TX6 32, w ∈ wsX6_rule := by decide +kernel
  refine x_of (cc := cX6_rule) (maxL := 7) (ret := (some .int)) (by decide) rfl (Nat.le_of_ble_eq_true rfl) ?_
  intro p e s m args below meth c A Q ls S I E hl
  replace hl : lv_has ls 7 [(0, .ref h), (1, .int p1), (2, .int p2)] := hl
  replace hf := (fX6_rule_e _ _ _ _).symm.trans hf
  refine lv_aload_n S.1 S.2.1 dX6_rule_0 rfl (lv_at hl 0 rfl) ?_
  refine lv_iload_n S.1 S.2.1 dX6_rule_1 rfl (lv_at hl 2 rfl) ?_
  obtain ⟨r2, hg1, hf⟩ := x_b1E hf
  refine x_cA (As := [.int p2]) (rest := []) (st' := [.int r2]) (ws' := (wX6 cI cC cZ h a F G)) S I (tX6_isPrinciple l D cI cC cZ h a F G p2 r2 hg1) (cwV 1 S.2.2.2.2 gX6_rule_X6_isPrinciple rfl rfl rfl (by decide +kernel) ⟨Nat.le_of_ble_eq_true rfl, Nat.le_of_ble_eq_true rfl⟩) 0 5 rfl rfl rfl rfl hl rfl (Nat.le_of_ble_eq_true rfl) ⟨Nat.zero_le _, Nat.zero_le _⟩ rfl dX6_rule_2 (fun H locs I => ?_)
  refine lv_istore_n (lv' := [(3, .int r2), (0, .ref h), (1, .int p1), (2, .int p2)]) S.1 S.2.1 dX6_rule_5 rfl hl (by decide) rfl (fun ls hl => ?_)
  refine lv_iload_n S.1 S.2.1 dX6_rule_6 rfl (lv_at hl 0 rfl) ?_
  have hj31 : ∀ (v3 : Int32) (H : Heap) (locs : List Loc) (ls : Array Slot), (fX6_rule_j31 F G r2 p1 p2) v3 = some res → xI D A s (wX6 cI cC cZ h a F G) (xT cI cC cZ) H locs → lv_has ls 7 [(3, .int r2), (0, .ref h), (1, .int p1), (2, .int p2)] → W p l e (headSpec wsX6_rule rmX6_rule).room s m args below meth c H locs 0 0 Q (F0 m 31 ls [.int v3]) := by
    intro v3 H locs ls hf I hl
    replace hf := (fX6_rule_j31_e _ _ _ _ _ _).symm.trans hf
    refine lv_istore (lv' := [(4, .int v3), (3, .int r2), (0, .ref h), (1, .int p1), (2, .int p2)]) S.1 S.2.1 dX6_rule_31 hl (by decide) rfl (fun ls hl => ?_)
    refine lv_aload_n S.1 S.2.1 dX6_rule_33 rfl (lv_at hl 2 rfl) ?_
    refine x_get (C := RX6) (T := TX6) (N := 32) (ci := 5) (v := .int (F 21)) S kX6 rfl I 0 21 rfl (by decide) (by decide +kernel) rfl dX6_rule_34 ?_
    refine lv_bipush (v := 30) S.1 S.2.1 dX6_rule_37 (by decide) ?_
    have hj47 : ∀ (v4 : Int32) (H : Heap) (locs : List Loc) (ls : Array Slot), (fX6_rule_j47 F G r2 p1 p2 v3) v4 = some res → xI D A s (wX6 cI cC cZ h a F G) (xT cI cC cZ) H locs → lv_has ls 7 [(4, .int v3), (3, .int r2), (0, .ref h), (1, .int p1), (2, .int p2)] → W p l e (headSpec wsX6_rule rmX6_rule).room s m args below meth c H locs 0 0 Q (F0 m 47 ls [.int v4]) := by
      intro v4 H locs ls hf I hl
      replace hf := (fX6_rule_j47_e _ _ _ _ _ _ _).symm.trans hf
      refine lv_istore (lv' := [(5, .int v4), (4, .int v3), (3, .int r2), (0, .ref h), (1, .int p1), (2, .int p2)]) S.1 S.2.1 dX6_rule_47 hl (by decide) rfl (fun ls hl => ?_)
      refine lv_iconst (v := 0) S.1 S.2.1 dX6_rule_49 (by decide) ?_
      refine lv_istore (lv' := [(6, .int 0), (5, .int v4), (4, .int v3), (3, .int r2), (0, .ref h), (1, .int p1), (2, .int p2)]) S.1 S.2.1 dX6_rule_50 hl (by decide) rfl (fun ls hl => ?_)
      have hx99 : ∀ (v5 : Int32) (H : Heap) (locs : List Loc) (ls : Array Slot), (fX6_rule_x99 F G r2 p1 p2 v3) v5 = some res → xI D A s (wX6 cI cC cZ h a F G) (xT cI cC cZ) H locs → lv_has ls 7 [(5, .int v5), (4, .int v3), (3, .int r2), (0, .ref h), (1, .int p1), (2, .int p2)] → W p l e (headSpec wsX6_rule rmX6_rule).room s m args below meth c H locs 0 0 Q (F0 m 99 ls []) := by
        intro v5 H locs ls hf I hl
        replace hf := (fX6_rule_x99_e _ _ _ _ _ _ _).symm.trans hf
        refine lv_aload_n S.1 S.2.1 dX6_rule_99 rfl (lv_at hl 3 rfl) ?_
        refine lv_iload_n S.1 S.2.1 dX6_rule_100 rfl (lv_at hl 2 rfl) ?_
        have hj127 : ∀ (v6 : Int32) (H : Heap) (locs : List Loc) (ls : Array Slot), (fX6_rule_j127 F G p1 p2) v6 = some res → xI D A s (wX6 cI cC cZ h a F G) (xT cI cC cZ) H locs → lv_has ls 7 [(0, .ref h), (1, .int p1), (2, .int p2)] → W p l e (headSpec wsX6_rule rmX6_rule).room s m args below meth c H locs 0 0 Q (F0 m 127 ls [.int v6, .ref h]) := by
          intro v6 H locs ls hf I hl
          replace hf := (fX6_rule_j127_e _ _ _ _ _).symm.trans hf
          obtain ⟨r8, F9, hg7, hf⟩ := x_b2E hf
          refine x_cA (As := [.int v6]) (rest := []) (st' := [.int r8]) (ws' := (wX6 cI cC cZ h a F9 G)) S I (tX6_goesWell l D cI cC cZ h a F G v6 (r8, F9) hg7) (cwV 1 S.2.2.2.2 gX6_rule_X6_goesWell rfl rfl rfl (by decide +kernel) ⟨Nat.le_of_ble_eq_true rfl, Nat.le_of_ble_eq_true rfl⟩) 0 5 rfl rfl rfl rfl hl rfl (Nat.le_of_ble_eq_true rfl) ⟨Nat.zero_le _, Nat.zero_le _⟩ rfl dX6_rule_127 (fun H locs I => ?_)
          refine lv_if_ne (tgt := 135) S.1 S.2.1 dX6_rule_130 (by decide) (fun c10 => ?_) (fun c10 => ?_)
          · replace hf := x_ifF hf c10
            refine lv_aload_n S.1 S.2.1 dX6_rule_135 rfl (lv_at hl 0 rfl) ?_
            refine x_get (C := RX6) (T := TX6) (N := 32) (ci := 5) (v := .ref (a 22)) S kX6 rfl I 0 22 rfl (by decide) (by decide +kernel) rfl dX6_rule_136 ?_
            refine lv_aload_n S.1 S.2.1 dX6_rule_139 rfl (lv_at hl 0 rfl) ?_
            refine x_get (C := RX6) (T := TX6) (N := 32) (ci := 5) (v := .int (F9 21)) S kX6 rfl I 0 21 rfl (by decide) (by decide +kernel) rfl dX6_rule_140 ?_
            refine lv_iload_n S.1 S.2.1 dX6_rule_143 rfl (lv_at hl 1 rfl) ?_
            obtain ⟨hi11, hf⟩ := x_ldE hf
            refine x_iast (f := (G 22)) (ws' := (wX6 cI cC cZ h a F9 (va_up G 22 (upd (G 22) (F9 21).toNatClampNeg p1)))) S I 16 0 rfl rfl hi11 rfl dX6_rule_144 (fun H locs I => ?_)
            refine lv_aload_n S.1 S.2.1 dX6_rule_145 rfl (lv_at hl 0 rfl) ?_
            refine x_get (C := RX6) (T := TX6) (N := 32) (ci := 5) (v := .ref (a 23)) S kX6 rfl I 0 23 rfl (by decide) (by decide +kernel) rfl dX6_rule_146 ?_
            refine lv_aload_n S.1 S.2.1 dX6_rule_149 rfl (lv_at hl 0 rfl) ?_
            refine x_get (C := RX6) (T := TX6) (N := 32) (ci := 5) (v := .int (F9 21)) S kX6 rfl I 0 21 rfl (by decide) (by decide +kernel) rfl dX6_rule_150 ?_
            refine lv_iload_n S.1 S.2.1 dX6_rule_153 rfl (lv_at hl 2 rfl) ?_
            obtain ⟨hi12, hf⟩ := x_ldE hf
            refine x_iast (f := (G 23)) (ws' := (wX6 cI cC cZ h a F9 (va_up (va_up G 22 (upd (G 22) (F9 21).toNatClampNeg p1)) 23 (upd (G 23) (F9 21).toNatClampNeg p2)))) S I 17 0 rfl rfl hi12 rfl dX6_rule_154 (fun H locs I => ?_)
            refine lv_aload_n S.1 S.2.1 dX6_rule_155 rfl (lv_at hl 0 rfl) ?_
            refine lv_dup S.1 S.2.1 dX6_rule_156 rfl ?_
            refine x_get (C := RX6) (T := TX6) (N := 32) (ci := 5) (v := .int (F9 21)) S kX6 rfl I 0 21 rfl (by decide) (by decide +kernel) rfl dX6_rule_157 ?_
            refine lv_iconst (v := 1) S.1 S.2.1 dX6_rule_160 (by decide) ?_
            refine lv_iadd S.1 S.2.1 dX6_rule_161 ?_
            refine x_put (C := RX6) (T := TX6) (N := 32) (ci := 5) (ws' := (wX6 cI cC cZ h a (va_up F9 21 ((F9 21) + 1)) (va_up (va_up G 22 (upd (G 22) (F9 21).toNatClampNeg p1)) 23 (upd (G 23) (F9 21).toNatClampNeg p2)))) S kX6 tyX6 tyX6_ok nmX6 rfl I 0 21 rfl (by decide) (by decide +kernel) rfl rfl (Nat.le_of_ble_eq_true rfl) rfl dX6_rule_162 (fun H locs I => ?_)
            refine lv_aload_n S.1 S.2.1 dX6_rule_165 rfl (lv_at hl 0 rfl) ?_
            refine x_get (C := RX6) (T := TX6) (N := 32) (ci := 5) (v := .int ((F9 21) + 1)) S kX6 rfl I 0 21 rfl (by decide) (by decide +kernel) rfl dX6_rule_166 ?_
            refine lv_iconst (v := 1) S.1 S.2.1 dX6_rule_169 (by decide) ?_
            refine lv_isub S.1 S.2.1 dX6_rule_170 ?_
            exact x_ri E rfl rfl hf rfl I rfl dX6_rule_171
          · replace hf := x_ifT hf c10
            refine lv_iconst (v := 0) S.1 S.2.1 dX6_rule_133 (by decide) ?_
            exact x_ri E rfl rfl hf rfl I rfl dX6_rule_134
        refine lv_if_ne (tgt := 108) S.1 S.2.1 dX6_rule_101 (by decide) (fun c13 => ?_) (fun c13 => ?_)
        · replace hf := x_ifF hf c13
          refine lv_iload S.1 S.2.1 dX6_rule_108 (lv_at hl 1 rfl) ?_
          refine lv_if_ne (tgt := 117) S.1 S.2.1 dX6_rule_110 (by decide) (fun c14 => ?_) (fun c14 => ?_)
          · replace hf := x_ifF hf c14
            refine lv_iload S.1 S.2.1 dX6_rule_117 (lv_at hl 0 rfl) ?_
            refine lv_if_eq (tgt := 126) S.1 S.2.1 dX6_rule_119 (by decide) (fun c15 => ?_) (fun c15 => ?_)
            · replace hf := x_ifT hf c15
              refine lv_iconst (v := 3) S.1 S.2.1 dX6_rule_126 (by decide) ?_
              exact hj127 3 _ _ _ hf I (lv_sub hl [3, 4, 5] rfl)
            · replace hf := x_ifF hf c15
              refine lv_iconst (v := 0) S.1 S.2.1 dX6_rule_122 (by decide) ?_
              refine lv_goto (tgt := 127) S.1 S.2.1 dX6_rule_123 (by decide) ?_
              exact hj127 0 _ _ _ hf I (lv_sub hl [3, 4, 5] rfl)
          · replace hf := x_ifT hf c14
            refine lv_iconst (v := 2) S.1 S.2.1 dX6_rule_113 (by decide) ?_
            refine lv_goto (tgt := 127) S.1 S.2.1 dX6_rule_114 (by decide) ?_
            exact hj127 2 _ _ _ hf I (lv_sub hl [3, 4, 5] rfl)
        · replace hf := x_ifT hf c13
          refine lv_iconst (v := 1) S.1 S.2.1 dX6_rule_104 (by decide) ?_
          refine lv_goto (tgt := 127) S.1 S.2.1 dX6_rule_105 (by decide) ?_
          exact hj127 1 _ _ _ hf I (lv_sub hl [3, 4, 5] rfl)
      have hl52 : ∀ (n52 : Nat), ∀ (v16 : Int32) (v17 : Int32) (H : Heap) (locs : List Loc) (ls : Array Slot), (fX6_rule_l52 F G r2 p1 p2 v3 n52) v16 v17 = some res → xI D A s (wX6 cI cC cZ h a F G) (xT cI cC cZ) H locs → lv_has ls 7 [(6, .int v17), (5, .int v16), (4, .int v3), (3, .int r2), (0, .ref h), (1, .int p1), (2, .int p2)] → W p l e (headSpec wsX6_rule rmX6_rule).room s m args below meth c H locs 0 0 Q (F0 m 52 ls []) := by
        intro n52
        induction n52 with
        | zero =>
          intro v16 v17 H locs ls hf I hl
          cases (fX6_rule_l52_z _ _ _ _ _ _ _ _).symm.trans hf
        | succ n52 ih52 =>
          intro v16 v17 H locs ls hf I hl
          replace hf := (fX6_rule_l52_e _ _ _ _ _ _ _ _ _).symm.trans hf
          refine lv_iload S.1 S.2.1 dX6_rule_52 (lv_at hl 0 rfl) ?_
          refine lv_aload_n S.1 S.2.1 dX6_rule_54 rfl (lv_at hl 4 rfl) ?_
          refine x_get (C := RX6) (T := TX6) (N := 32) (ci := 5) (v := .int (F 24)) S kX6 rfl I 0 24 rfl (by decide) (by decide +kernel) rfl dX6_rule_55 ?_
          refine lv_icmp_ge (tgt := 99) S.1 S.2.1 dX6_rule_58 (by decide) (fun c18 => ?_) (fun c18 => ?_)
          · replace hf := x_ifT hf c18
            exact hx99 v16 _ _ _ hf I (lv_sub hl [1, 2, 3, 4, 5, 6] rfl)
          · replace hf := x_ifF hf c18
            refine lv_iload S.1 S.2.1 dX6_rule_61 (lv_at hl 2 rfl) ?_
            refine lv_if_eq (tgt := 99) S.1 S.2.1 dX6_rule_63 (by decide) (fun c19 => ?_) (fun c19 => ?_)
            · replace hf := x_ifT hf c19
              exact hx99 v16 _ _ _ hf I (lv_sub hl [1, 2, 3, 4, 5, 6] rfl)
            · replace hf := x_ifF hf c19
              refine lv_iload S.1 S.2.1 dX6_rule_66 (lv_at hl 1 rfl) ?_
              have hj91 : ∀ (v20 : Int32) (H : Heap) (locs : List Loc) (ls : Array Slot), (fX6_rule_j91 (fX6_rule_l52 F G r2 p1 p2 v3 n52) v17) v20 = some res → xI D A s (wX6 cI cC cZ h a F G) (xT cI cC cZ) H locs → lv_has ls 7 [(6, .int v17), (4, .int v3), (3, .int r2), (0, .ref h), (1, .int p1), (2, .int p2)] → W p l e (headSpec wsX6_rule rmX6_rule).room s m args below meth c H locs 0 0 Q (F0 m 91 ls [.int v20]) := by
                intro v20 H locs ls hf I hl
                replace hf := (fX6_rule_j91_e _ _ _).symm.trans hf
                refine lv_istore (lv' := [(5, .int v20), (6, .int v17), (4, .int v3), (3, .int r2), (0, .ref h), (1, .int p1), (2, .int p2)]) S.1 S.2.1 dX6_rule_91 hl (by decide) rfl (fun ls hl => ?_)
                refine lv_iinc (v := (v17 + 1)) (lv' := [(6, .int (v17 + 1)), (5, .int v20), (4, .int v3), (3, .int r2), (0, .ref h), (1, .int p1), (2, .int p2)]) S.1 S.2.1 dX6_rule_93 hl (k := 1) rfl rfl (by decide) rfl (fun ls hl => ?_)
                refine lv_goto (tgt := 52) S.1 S.2.1 dX6_rule_96 (by decide) ?_
                exact ih52 v20 (v17 + 1) _ _ _ hf I (lv_sub hl [0, 1, 2, 3, 4, 5, 6] rfl)
              have hj90 : ∀  (H : Heap) (locs : List Loc) (ls : Array Slot), (fX6_rule_j90 (fX6_rule_l52 F G r2 p1 p2 v3 n52) v17) = some res → xI D A s (wX6 cI cC cZ h a F G) (xT cI cC cZ) H locs → lv_has ls 7 [(6, .int v17), (4, .int v3), (3, .int r2), (0, .ref h), (1, .int p1), (2, .int p2)] → W p l e (headSpec wsX6_rule rmX6_rule).room s m args below meth c H locs 0 0 Q (F0 m 90 ls []) := by
                intro  H locs ls hf I hl
                replace hf := (fX6_rule_j90_e _ _).symm.trans hf
                refine lv_iconst (v := 0) S.1 S.2.1 dX6_rule_90 (by decide) ?_
                exact hj91 0 _ _ _ hf I (lv_sub hl [0, 1, 2, 3, 4, 5] rfl)
              refine lv_if_eq (tgt := 90) S.1 S.2.1 dX6_rule_68 (by decide) (fun c21 => ?_) (fun c21 => ?_)
              · replace hf := x_ifT hf c21
                exact hj90 _ _ _ hf I (lv_sub hl [0, 2, 3, 4, 5, 6] rfl)
              · replace hf := x_ifF hf c21
                refine lv_aload_n S.1 S.2.1 dX6_rule_71 rfl (lv_at hl 4 rfl) ?_
                refine x_get (C := RX6) (T := TX6) (N := 32) (ci := 5) (v := .ref (a 25)) S kX6 rfl I 0 25 rfl (by decide) (by decide +kernel) rfl dX6_rule_72 ?_
                refine lv_iload S.1 S.2.1 dX6_rule_75 (lv_at hl 0 rfl) ?_
                obtain ⟨hi22, hf⟩ := x_ldE hf
                refine x_iald (f := (G 25)) S I 18 0 rfl rfl hi22 dX6_rule_77 ?_
                refine lv_iload_n S.1 S.2.1 dX6_rule_78 rfl (lv_at hl 5 rfl) ?_
                refine lv_iload_n S.1 S.2.1 dX6_rule_79 rfl (lv_at hl 6 rfl) ?_
                obtain ⟨r24, hg23, hf⟩ := x_b1E hf
                refine x_c0 (As := [.int ((G 25) v17.toNatClampNeg), .int p1, .int p2]) (rest := []) (st' := [.int r24]) S I rfl (tX6_breaks l D cI cC cZ ((G 25) v17.toNatClampNeg) p1 p2 r24 hg23) (va_cwS 3 S.2.2.2.2 gX6_rule_X6_breaks rfl rfl rfl (by decide +kernel) ⟨Nat.le_of_ble_eq_true rfl, Nat.le_of_ble_eq_true rfl⟩) hl rfl (Nat.le_of_ble_eq_true rfl) ⟨Nat.zero_le _, Nat.zero_le _⟩ rfl dX6_rule_80 (fun H locs I => ?_)
                refine lv_if_ne (tgt := 90) S.1 S.2.1 dX6_rule_83 (by decide) (fun c25 => ?_) (fun c25 => ?_)
                · replace hf := x_ifF hf c25
                  exact hj90 _ _ _ hf I (lv_sub hl [0, 2, 3, 4, 5, 6] rfl)
                · replace hf := x_ifT hf c25
                  refine lv_iconst (v := 1) S.1 S.2.1 dX6_rule_86 (by decide) ?_
                  refine lv_goto (tgt := 91) S.1 S.2.1 dX6_rule_87 (by decide) ?_
                  exact hj91 1 _ _ _ hf I (lv_sub hl [0, 2, 3, 4, 5, 6] rfl)
      exact hl52 4096 v4 0 _ _ _ hf I (lv_sub hl [0, 1, 2, 3, 4, 5, 6] rfl)
    refine lv_icmp_ge (tgt := 46) S.1 S.2.1 dX6_rule_39 (by decide) (fun c26 => ?_) (fun c26 => ?_)
    · replace hf := x_ifT hf c26
      refine lv_iconst (v := 0) S.1 S.2.1 dX6_rule_46 (by decide) ?_
      exact hj47 0 _ _ _ hf I (lv_sub hl [0, 1, 2, 3, 4] rfl)
    · replace hf := x_ifF hf c26
      refine lv_iconst (v := 1) S.1 S.2.1 dX6_rule_42 (by decide) ?_
      refine lv_goto (tgt := 47) S.1 S.2.1 dX6_rule_43 (by decide) ?_
      exact hj47 1 _ _ _ hf I (lv_sub hl [0, 1, 2, 3, 4] rfl)
  have hj30 : ∀  (H : Heap) (locs : List Loc) (ls : Array Slot), (fX6_rule_j30 F G r2 p1 p2) = some res → xI D A s (wX6 cI cC cZ h a F G) (xT cI cC cZ) H locs → lv_has ls 7 [(3, .int r2), (0, .ref h), (1, .int p1), (2, .int p2)] → W p l e (headSpec wsX6_rule rmX6_rule).room s m args below meth c H locs 0 0 Q (F0 m 30 ls []) := by
    intro  H locs ls hf I hl
    replace hf := (fX6_rule_j30_e _ _ _ _ _).symm.trans hf
    refine lv_iconst (v := 0) S.1 S.2.1 dX6_rule_30 (by decide) ?_
    exact hj31 0 _ _ _ hf I (lv_sub hl [0, 1, 2, 3] rfl)
  refine lv_if_eq (tgt := 30) S.1 S.2.1 dX6_rule_7 (by decide) (fun c27 => ?_) (fun c27 => ?_)
  · replace hf := x_ifT hf c27
    exact hj30 _ _ _ hf I (lv_sub hl [0, 1, 2, 3] rfl)
  · replace hf := x_ifF hf c27
    refine lv_aload_n S.1 S.2.1 dX6_rule_10 rfl (lv_at hl 1 rfl) ?_
    refine lv_iload_n S.1 S.2.1 dX6_rule_11 rfl (lv_at hl 2 rfl) ?_
    obtain ⟨r29, hg28, hf⟩ := x_b1E hf
    refine x_cA (As := [.int p1]) (rest := []) (st' := [.int r29]) (ws' := (wX6 cI cC cZ h a F G)) S I (tX6_isSet l D cI cC cZ h a F G p1 r29 hg28) (cwV 1 S.2.2.2.2 gX6_rule_X6_isSet rfl rfl rfl (by decide +kernel) ⟨Nat.le_of_ble_eq_true rfl, Nat.le_of_ble_eq_true rfl⟩) 0 5 rfl rfl rfl rfl hl rfl (Nat.le_of_ble_eq_true rfl) ⟨Nat.zero_le _, Nat.zero_le _⟩ rfl dX6_rule_12 (fun H locs I => ?_)
    refine lv_if_eq (tgt := 30) S.1 S.2.1 dX6_rule_15 (by decide) (fun c30 => ?_) (fun c30 => ?_)
    · replace hf := x_ifT hf c30
      exact hj30 _ _ _ hf I (lv_sub hl [0, 1, 2, 3] rfl)
    · replace hf := x_ifF hf c30
      refine lv_iload_n S.1 S.2.1 dX6_rule_18 rfl (lv_at hl 2 rfl) ?_
      refine lv_iload_n S.1 S.2.1 dX6_rule_19 rfl (lv_at hl 3 rfl) ?_
      refine lv_ishr S.1 S.2.1 dX6_rule_20 ?_
      refine lv_iconst (v := 1) S.1 S.2.1 dX6_rule_21 (by decide) ?_
      refine lv_iand S.1 S.2.1 dX6_rule_22 ?_
      refine lv_if_ne (tgt := 30) S.1 S.2.1 dX6_rule_23 (by decide) (fun c31 => ?_) (fun c31 => ?_)
      · replace hf := x_ifF hf c31
        exact hj30 _ _ _ hf I (lv_sub hl [0, 1, 2, 3] rfl)
      · replace hf := x_ifT hf c31
        refine lv_iconst (v := 1) S.1 S.2.1 dX6_rule_26 (by decide) ?_
        refine lv_goto (tgt := 31) S.1 S.2.1 dX6_rule_27 (by decide) ?_
        exact hj31 1 _ _ _ hf I (lv_sub hl [0, 1, 2, 3] rfl)
set_option maxHeartbeats 4000000 in
set_option maxRecDepth 100000 in
theorem tX6_model (l : Launch) (D : va_G) (cI cC cZ : ClassId) (h : Nat) (a : Nat → Nat) (F : xF) (G : xG) (p1 : Int32) (res : Int32 × xF × xG) (hf : fX6_model F G p1 = some res) : xC l yX6_model wsX6_model rmX6_model D [.ref h, .int p1] (wX6 cI cC cZ h a F G) (fun t => (wX6 cI cC cZ h a t.2.1 t.2.2)) (xT cI cC cZ) (fun t => some (.int t.1)) res := by
  have kX6 : ∀ w ∈ u_ws RX6 TX6 32, w ∈ wsX6_model := by decide +kernel
  refine x_of (cc := cX6_model) (maxL := 5) (ret := (some .int)) (by decide) rfl (Nat.le_of_ble_eq_true rfl) ?_
  intro p e s m args below meth c A Q ls S I E hl
  replace hl : lv_has ls 5 [(0, .ref h), (1, .int p1)] := hl
  replace hf := (fX6_model_e _ _ _).symm.trans hf
  refine lv_aload_n S.1 S.2.1 dX6_model_0 rfl (lv_at hl 0 rfl) ?_
  refine lv_iload_n S.1 S.2.1 dX6_model_1 rfl (lv_at hl 1 rfl) ?_
  obtain ⟨r2, hg1, hf⟩ := x_b1E hf
  refine x_cA (As := [.int p1]) (rest := []) (st' := [.int r2]) (ws' := (wX6 cI cC cZ h a F G)) S I (tX6_isSet l D cI cC cZ h a F G p1 r2 hg1) (cwV 1 S.2.2.2.2 gX6_model_X6_isSet rfl rfl rfl (by decide +kernel) ⟨Nat.le_of_ble_eq_true rfl, Nat.le_of_ble_eq_true rfl⟩) 0 5 rfl rfl rfl rfl hl rfl (Nat.le_of_ble_eq_true rfl) ⟨Nat.zero_le _, Nat.zero_le _⟩ rfl dX6_model_2 (fun H locs I => ?_)
  refine lv_istore_n (lv' := [(2, .int r2), (0, .ref h), (1, .int p1)]) S.1 S.2.1 dX6_model_5 rfl hl (by decide) rfl (fun ls hl => ?_)
  refine lv_aload_n S.1 S.2.1 dX6_model_6 rfl (lv_at hl 1 rfl) ?_
  refine x_get (C := RX6) (T := TX6) (N := 32) (ci := 5) (v := .int (F 24)) S kX6 rfl I 0 24 rfl (by decide) (by decide +kernel) rfl dX6_model_7 ?_
  refine lv_bipush (v := 10) S.1 S.2.1 dX6_model_10 (by decide) ?_
  have hj20 : ∀ (v3 : Int32) (H : Heap) (locs : List Loc) (ls : Array Slot), (fX6_model_j20 F G r2 p1) v3 = some res → xI D A s (wX6 cI cC cZ h a F G) (xT cI cC cZ) H locs → lv_has ls 5 [(2, .int r2), (0, .ref h), (1, .int p1)] → W p l e (headSpec wsX6_model rmX6_model).room s m args below meth c H locs 0 0 Q (F0 m 20 ls [.int v3]) := by
    intro v3 H locs ls hf I hl
    replace hf := (fX6_model_j20_e _ _ _ _ _).symm.trans hf
    refine lv_istore_n (lv' := [(3, .int v3), (2, .int r2), (0, .ref h), (1, .int p1)]) S.1 S.2.1 dX6_model_20 rfl hl (by decide) rfl (fun ls hl => ?_)
    refine lv_iconst (v := 0) S.1 S.2.1 dX6_model_21 (by decide) ?_
    refine lv_istore (lv' := [(4, .int 0), (3, .int v3), (2, .int r2), (0, .ref h), (1, .int p1)]) S.1 S.2.1 dX6_model_22 hl (by decide) rfl (fun ls hl => ?_)
    have hx74 : ∀ (v4 : Int32) (H : Heap) (locs : List Loc) (ls : Array Slot), (fX6_model_x74 F G r2 p1) v4 = some res → xI D A s (wX6 cI cC cZ h a F G) (xT cI cC cZ) H locs → lv_has ls 5 [(3, .int v4), (2, .int r2), (0, .ref h), (1, .int p1)] → W p l e (headSpec wsX6_model rmX6_model).room s m args below meth c H locs 0 0 Q (F0 m 74 ls []) := by
      intro v4 H locs ls hf I hl
      replace hf := (fX6_model_x74_e _ _ _ _ _).symm.trans hf
      refine lv_aload_n S.1 S.2.1 dX6_model_74 rfl (lv_at hl 2 rfl) ?_
      refine lv_iload_n S.1 S.2.1 dX6_model_75 rfl (lv_at hl 1 rfl) ?_
      have hj92 : ∀ (v5 : Int32) (H : Heap) (locs : List Loc) (ls : Array Slot), (fX6_model_j92 F G p1) v5 = some res → xI D A s (wX6 cI cC cZ h a F G) (xT cI cC cZ) H locs → lv_has ls 5 [(0, .ref h), (1, .int p1)] → W p l e (headSpec wsX6_model rmX6_model).room s m args below meth c H locs 0 0 Q (F0 m 92 ls [.int v5, .ref h]) := by
        intro v5 H locs ls hf I hl
        replace hf := (fX6_model_j92_e _ _ _ _).symm.trans hf
        obtain ⟨r7, F8, hg6, hf⟩ := x_b2E hf
        refine x_cA (As := [.int v5]) (rest := []) (st' := [.int r7]) (ws' := (wX6 cI cC cZ h a F8 G)) S I (tX6_goesWell l D cI cC cZ h a F G v5 (r7, F8) hg6) (cwV 1 S.2.2.2.2 gX6_model_X6_goesWell rfl rfl rfl (by decide +kernel) ⟨Nat.le_of_ble_eq_true rfl, Nat.le_of_ble_eq_true rfl⟩) 0 5 rfl rfl rfl rfl hl rfl (Nat.le_of_ble_eq_true rfl) ⟨Nat.zero_le _, Nat.zero_le _⟩ rfl dX6_model_92 (fun H locs I => ?_)
        refine lv_if_ne (tgt := 100) S.1 S.2.1 dX6_model_95 (by decide) (fun c9 => ?_) (fun c9 => ?_)
        · replace hf := x_ifF hf c9
          refine lv_aload_n S.1 S.2.1 dX6_model_100 rfl (lv_at hl 0 rfl) ?_
          refine x_get (C := RX6) (T := TX6) (N := 32) (ci := 5) (v := .ref (a 25)) S kX6 rfl I 0 25 rfl (by decide) (by decide +kernel) rfl dX6_model_101 ?_
          refine lv_aload_n S.1 S.2.1 dX6_model_104 rfl (lv_at hl 0 rfl) ?_
          refine x_get (C := RX6) (T := TX6) (N := 32) (ci := 5) (v := .int (F8 24)) S kX6 rfl I 0 24 rfl (by decide) (by decide +kernel) rfl dX6_model_105 ?_
          refine lv_iload_n S.1 S.2.1 dX6_model_108 rfl (lv_at hl 1 rfl) ?_
          obtain ⟨hi10, hf⟩ := x_ldE hf
          refine x_iast (f := (G 25)) (ws' := (wX6 cI cC cZ h a F8 (va_up G 25 (upd (G 25) (F8 24).toNatClampNeg p1)))) S I 18 0 rfl rfl hi10 rfl dX6_model_109 (fun H locs I => ?_)
          refine lv_aload_n S.1 S.2.1 dX6_model_110 rfl (lv_at hl 0 rfl) ?_
          refine lv_dup S.1 S.2.1 dX6_model_111 rfl ?_
          refine x_get (C := RX6) (T := TX6) (N := 32) (ci := 5) (v := .int (F8 24)) S kX6 rfl I 0 24 rfl (by decide) (by decide +kernel) rfl dX6_model_112 ?_
          refine lv_iconst (v := 1) S.1 S.2.1 dX6_model_115 (by decide) ?_
          refine lv_iadd S.1 S.2.1 dX6_model_116 ?_
          refine x_put (C := RX6) (T := TX6) (N := 32) (ci := 5) (ws' := (wX6 cI cC cZ h a (va_up F8 24 ((F8 24) + 1)) (va_up G 25 (upd (G 25) (F8 24).toNatClampNeg p1)))) S kX6 tyX6 tyX6_ok nmX6 rfl I 0 24 rfl (by decide) (by decide +kernel) rfl rfl (Nat.le_of_ble_eq_true rfl) rfl dX6_model_117 (fun H locs I => ?_)
          refine lv_aload_n S.1 S.2.1 dX6_model_120 rfl (lv_at hl 0 rfl) ?_
          refine x_get (C := RX6) (T := TX6) (N := 32) (ci := 5) (v := .int ((F8 24) + 1)) S kX6 rfl I 0 24 rfl (by decide) (by decide +kernel) rfl dX6_model_121 ?_
          refine lv_iconst (v := 1) S.1 S.2.1 dX6_model_124 (by decide) ?_
          refine lv_isub S.1 S.2.1 dX6_model_125 ?_
          exact x_ri E rfl rfl hf rfl I rfl dX6_model_126
        · replace hf := x_ifT hf c9
          refine lv_iconst (v := 0) S.1 S.2.1 dX6_model_98 (by decide) ?_
          exact x_ri E rfl rfl hf rfl I rfl dX6_model_99
      refine lv_if_ne (tgt := 83) S.1 S.2.1 dX6_model_76 (by decide) (fun c11 => ?_) (fun c11 => ?_)
      · replace hf := x_ifF hf c11
        refine lv_iload_n S.1 S.2.1 dX6_model_83 rfl (lv_at hl 0 rfl) ?_
        refine lv_if_eq (tgt := 91) S.1 S.2.1 dX6_model_84 (by decide) (fun c12 => ?_) (fun c12 => ?_)
        · replace hf := x_ifT hf c12
          refine lv_iconst (v := 2) S.1 S.2.1 dX6_model_91 (by decide) ?_
          exact hj92 2 _ _ _ hf I (lv_sub hl [2, 3] rfl)
        · replace hf := x_ifF hf c12
          refine lv_iconst (v := 0) S.1 S.2.1 dX6_model_87 (by decide) ?_
          refine lv_goto (tgt := 92) S.1 S.2.1 dX6_model_88 (by decide) ?_
          exact hj92 0 _ _ _ hf I (lv_sub hl [2, 3] rfl)
      · replace hf := x_ifT hf c11
        refine lv_iconst (v := 1) S.1 S.2.1 dX6_model_79 (by decide) ?_
        refine lv_goto (tgt := 92) S.1 S.2.1 dX6_model_80 (by decide) ?_
        exact hj92 1 _ _ _ hf I (lv_sub hl [2, 3] rfl)
    have hl24 : ∀ (n24 : Nat), ∀ (v13 : Int32) (v14 : Int32) (H : Heap) (locs : List Loc) (ls : Array Slot), (fX6_model_l24 F G r2 p1 n24) v13 v14 = some res → xI D A s (wX6 cI cC cZ h a F G) (xT cI cC cZ) H locs → lv_has ls 5 [(4, .int v14), (3, .int v13), (2, .int r2), (0, .ref h), (1, .int p1)] → W p l e (headSpec wsX6_model rmX6_model).room s m args below meth c H locs 0 0 Q (F0 m 24 ls []) := by
      intro n24
      induction n24 with
      | zero =>
        intro v13 v14 H locs ls hf I hl
        cases (fX6_model_l24_z _ _ _ _ _ _).symm.trans hf
      | succ n24 ih24 =>
        intro v13 v14 H locs ls hf I hl
        replace hf := (fX6_model_l24_e _ _ _ _ _ _ _).symm.trans hf
        refine lv_iload S.1 S.2.1 dX6_model_24 (lv_at hl 0 rfl) ?_
        refine lv_aload_n S.1 S.2.1 dX6_model_26 rfl (lv_at hl 3 rfl) ?_
        refine x_get (C := RX6) (T := TX6) (N := 32) (ci := 5) (v := .int (F 21)) S kX6 rfl I 0 21 rfl (by decide) (by decide +kernel) rfl dX6_model_27 ?_
        refine lv_icmp_ge (tgt := 74) S.1 S.2.1 dX6_model_30 (by decide) (fun c15 => ?_) (fun c15 => ?_)
        · replace hf := x_ifT hf c15
          exact hx74 v13 _ _ _ hf I (lv_sub hl [1, 2, 3, 4] rfl)
        · replace hf := x_ifF hf c15
          refine lv_iload_n S.1 S.2.1 dX6_model_33 rfl (lv_at hl 2 rfl) ?_
          refine lv_if_eq (tgt := 74) S.1 S.2.1 dX6_model_34 (by decide) (fun c16 => ?_) (fun c16 => ?_)
          · replace hf := x_ifT hf c16
            exact hx74 v13 _ _ _ hf I (lv_sub hl [1, 2, 3, 4] rfl)
          · replace hf := x_ifF hf c16
            refine lv_iload_n S.1 S.2.1 dX6_model_37 rfl (lv_at hl 1 rfl) ?_
            have hj67 : ∀ (v17 : Int32) (H : Heap) (locs : List Loc) (ls : Array Slot), (fX6_model_j67 (fX6_model_l24 F G r2 p1 n24) v14) v17 = some res → xI D A s (wX6 cI cC cZ h a F G) (xT cI cC cZ) H locs → lv_has ls 5 [(4, .int v14), (2, .int r2), (0, .ref h), (1, .int p1)] → W p l e (headSpec wsX6_model rmX6_model).room s m args below meth c H locs 0 0 Q (F0 m 67 ls [.int v17]) := by
              intro v17 H locs ls hf I hl
              replace hf := (fX6_model_j67_e _ _ _).symm.trans hf
              refine lv_istore_n (lv' := [(3, .int v17), (4, .int v14), (2, .int r2), (0, .ref h), (1, .int p1)]) S.1 S.2.1 dX6_model_67 rfl hl (by decide) rfl (fun ls hl => ?_)
              refine lv_iinc (v := (v14 + 1)) (lv' := [(4, .int (v14 + 1)), (3, .int v17), (2, .int r2), (0, .ref h), (1, .int p1)]) S.1 S.2.1 dX6_model_68 hl (k := 1) rfl rfl (by decide) rfl (fun ls hl => ?_)
              refine lv_goto (tgt := 24) S.1 S.2.1 dX6_model_71 (by decide) ?_
              exact ih24 v17 (v14 + 1) _ _ _ hf I (lv_sub hl [0, 1, 2, 3, 4] rfl)
            have hj66 : ∀  (H : Heap) (locs : List Loc) (ls : Array Slot), (fX6_model_j66 (fX6_model_l24 F G r2 p1 n24) v14) = some res → xI D A s (wX6 cI cC cZ h a F G) (xT cI cC cZ) H locs → lv_has ls 5 [(4, .int v14), (2, .int r2), (0, .ref h), (1, .int p1)] → W p l e (headSpec wsX6_model rmX6_model).room s m args below meth c H locs 0 0 Q (F0 m 66 ls []) := by
              intro  H locs ls hf I hl
              replace hf := (fX6_model_j66_e _ _).symm.trans hf
              refine lv_iconst (v := 0) S.1 S.2.1 dX6_model_66 (by decide) ?_
              exact hj67 0 _ _ _ hf I (lv_sub hl [0, 1, 2, 3] rfl)
            refine lv_if_eq (tgt := 66) S.1 S.2.1 dX6_model_38 (by decide) (fun c18 => ?_) (fun c18 => ?_)
            · replace hf := x_ifT hf c18
              exact hj66 _ _ _ hf I (lv_sub hl [0, 2, 3, 4] rfl)
            · replace hf := x_ifF hf c18
              refine lv_iload_n S.1 S.2.1 dX6_model_41 rfl (lv_at hl 4 rfl) ?_
              refine lv_aload_n S.1 S.2.1 dX6_model_42 rfl (lv_at hl 3 rfl) ?_
              refine x_get (C := RX6) (T := TX6) (N := 32) (ci := 5) (v := .ref (a 22)) S kX6 rfl I 0 22 rfl (by decide) (by decide +kernel) rfl dX6_model_43 ?_
              refine lv_iload S.1 S.2.1 dX6_model_46 (lv_at hl 0 rfl) ?_
              obtain ⟨hi19, hf⟩ := x_ldE hf
              refine x_iald (f := (G 22)) S I 16 0 rfl rfl hi19 dX6_model_48 ?_
              refine lv_aload_n S.1 S.2.1 dX6_model_49 rfl (lv_at hl 3 rfl) ?_
              refine x_get (C := RX6) (T := TX6) (N := 32) (ci := 5) (v := .ref (a 23)) S kX6 rfl I 0 23 rfl (by decide) (by decide +kernel) rfl dX6_model_50 ?_
              refine lv_iload S.1 S.2.1 dX6_model_53 (lv_at hl 0 rfl) ?_
              obtain ⟨hi20, hf⟩ := x_ldE hf
              refine x_iald (f := (G 23)) S I 17 0 rfl rfl hi20 dX6_model_55 ?_
              obtain ⟨r22, hg21, hf⟩ := x_b1E hf
              refine x_c0 (As := [.int p1, .int ((G 22) v14.toNatClampNeg), .int ((G 23) v14.toNatClampNeg)]) (rest := []) (st' := [.int r22]) S I rfl (tX6_breaks l D cI cC cZ p1 ((G 22) v14.toNatClampNeg) ((G 23) v14.toNatClampNeg) r22 hg21) (va_cwS 3 S.2.2.2.2 gX6_model_X6_breaks rfl rfl rfl (by decide +kernel) ⟨Nat.le_of_ble_eq_true rfl, Nat.le_of_ble_eq_true rfl⟩) hl rfl (Nat.le_of_ble_eq_true rfl) ⟨Nat.zero_le _, Nat.zero_le _⟩ rfl dX6_model_56 (fun H locs I => ?_)
              refine lv_if_ne (tgt := 66) S.1 S.2.1 dX6_model_59 (by decide) (fun c23 => ?_) (fun c23 => ?_)
              · replace hf := x_ifF hf c23
                exact hj66 _ _ _ hf I (lv_sub hl [0, 2, 3, 4] rfl)
              · replace hf := x_ifT hf c23
                refine lv_iconst (v := 1) S.1 S.2.1 dX6_model_62 (by decide) ?_
                refine lv_goto (tgt := 67) S.1 S.2.1 dX6_model_63 (by decide) ?_
                exact hj67 1 _ _ _ hf I (lv_sub hl [0, 2, 3, 4] rfl)
    exact hl24 4096 v3 0 _ _ _ hf I (lv_sub hl [0, 1, 2, 3, 4] rfl)
  refine lv_icmp_ge (tgt := 19) S.1 S.2.1 dX6_model_12 (by decide) (fun c24 => ?_) (fun c24 => ?_)
  · replace hf := x_ifT hf c24
    refine lv_iconst (v := 0) S.1 S.2.1 dX6_model_19 (by decide) ?_
    exact hj20 0 _ _ _ hf I (lv_sub hl [0, 1, 2] rfl)
  · replace hf := x_ifF hf c24
    refine lv_iconst (v := 1) S.1 S.2.1 dX6_model_15 (by decide) ?_
    refine lv_goto (tgt := 20) S.1 S.2.1 dX6_model_16 (by decide) ?_
    exact hj20 1 _ _ _ hf I (lv_sub hl [0, 1, 2] rfl)
set_option maxHeartbeats 4000000 in
set_option maxRecDepth 100000 in
theorem tX6_nextRule (l : Launch) (D : va_G) (cI cC cZ : ClassId) (h : Nat) (a : Nat → Nat) (F : xF) (G : xG) (p1 : Int32) (res : Int32) (hf : fX6_nextRule F G p1 = some res) : xC l yX6_nextRule wsX6_nextRule rmX6_nextRule D [.ref h, .int p1] (wX6 cI cC cZ h a F G) (fun _ => (wX6 cI cC cZ h a F G)) (xT cI cC cZ) (fun t => some (.int t)) res := by
  have kX6 : ∀ w ∈ u_ws RX6 TX6 32, w ∈ wsX6_nextRule := by decide +kernel
  refine x_of (cc := cX6_nextRule) (maxL := 4) (ret := (some .int)) (by decide) rfl (Nat.le_of_ble_eq_true rfl) ?_
  intro p e s m args below meth c A Q ls S I E hl
  replace hl : lv_has ls 4 [(0, .ref h), (1, .int p1)] := hl
  replace hf := (fX6_nextRule_e _ _ _).symm.trans hf
  refine lv_iconst (v := (-1)) S.1 S.2.1 dX6_nextRule_0 (by decide) ?_
  refine lv_istore_n (lv' := [(2, .int (-1)), (0, .ref h), (1, .int p1)]) S.1 S.2.1 dX6_nextRule_1 rfl hl (by decide) rfl (fun ls hl => ?_)
  refine lv_aload_n S.1 S.2.1 dX6_nextRule_2 rfl (lv_at hl 1 rfl) ?_
  refine x_get (C := RX6) (T := TX6) (N := 32) (ci := 5) (v := .int (F 21)) S kX6 rfl I 0 21 rfl (by decide) (by decide +kernel) rfl dX6_nextRule_3 ?_
  refine lv_iconst (v := 1) S.1 S.2.1 dX6_nextRule_6 (by decide) ?_
  refine lv_isub S.1 S.2.1 dX6_nextRule_7 ?_
  refine lv_istore_n (lv' := [(3, .int ((F 21) - 1)), (2, .int (-1)), (0, .ref h), (1, .int p1)]) S.1 S.2.1 dX6_nextRule_8 rfl hl (by decide) rfl (fun ls hl => ?_)
  have hl9 : ∀ (n9 : Nat), ∀ (v1 : Int32) (v2 : Int32) (H : Heap) (locs : List Loc) (ls : Array Slot), (fX6_nextRule_l9 G p1 n9) v1 v2 = some res → xI D A s (wX6 cI cC cZ h a F G) (xT cI cC cZ) H locs → lv_has ls 4 [(3, .int v2), (2, .int v1), (0, .ref h), (1, .int p1)] → W p l e (headSpec wsX6_nextRule rmX6_nextRule).room s m args below meth c H locs 0 0 Q (F0 m 9 ls []) := by
    intro n9
    induction n9 with
    | zero =>
      intro v1 v2 H locs ls hf I hl
      cases (fX6_nextRule_l9_z _ _ _ _).symm.trans hf
    | succ n9 ih9 =>
      intro v1 v2 H locs ls hf I hl
      replace hf := (fX6_nextRule_l9_e _ _ _ _ _).symm.trans hf
      refine lv_iload_n S.1 S.2.1 dX6_nextRule_9 rfl (lv_at hl 0 rfl) ?_
      refine lv_if_lt (tgt := 44) S.1 S.2.1 dX6_nextRule_10 (by decide) (fun c3 => ?_) (fun c3 => ?_)
      · replace hf := x_ifT hf c3
        refine lv_iload_n S.1 S.2.1 dX6_nextRule_44 rfl (lv_at hl 1 rfl) ?_
        exact x_ri E rfl rfl hf rfl I rfl dX6_nextRule_45
      · replace hf := x_ifF hf c3
        refine lv_iload_n S.1 S.2.1 dX6_nextRule_13 rfl (lv_at hl 3 rfl) ?_
        refine lv_aload_n S.1 S.2.1 dX6_nextRule_14 rfl (lv_at hl 2 rfl) ?_
        refine x_get (C := RX6) (T := TX6) (N := 32) (ci := 5) (v := .ref (a 22)) S kX6 rfl I 0 22 rfl (by decide) (by decide +kernel) rfl dX6_nextRule_15 ?_
        refine lv_iload_n S.1 S.2.1 dX6_nextRule_18 rfl (lv_at hl 0 rfl) ?_
        obtain ⟨hi4, hf⟩ := x_ldE hf
        refine x_iald (f := (G 22)) S I 16 0 rfl rfl hi4 dX6_nextRule_19 ?_
        refine lv_aload_n S.1 S.2.1 dX6_nextRule_20 rfl (lv_at hl 2 rfl) ?_
        refine x_get (C := RX6) (T := TX6) (N := 32) (ci := 5) (v := .ref (a 23)) S kX6 rfl I 0 23 rfl (by decide) (by decide +kernel) rfl dX6_nextRule_21 ?_
        refine lv_iload_n S.1 S.2.1 dX6_nextRule_24 rfl (lv_at hl 0 rfl) ?_
        obtain ⟨hi5, hf⟩ := x_ldE hf
        refine x_iald (f := (G 23)) S I 17 0 rfl rfl hi5 dX6_nextRule_25 ?_
        obtain ⟨r7, hg6, hf⟩ := x_b1E hf
        refine x_c0 (As := [.int p1, .int ((G 22) v2.toNatClampNeg), .int ((G 23) v2.toNatClampNeg)]) (rest := []) (st' := [.int r7]) S I rfl (tX6_breaks l D cI cC cZ p1 ((G 22) v2.toNatClampNeg) ((G 23) v2.toNatClampNeg) r7 hg6) (va_cwS 3 S.2.2.2.2 gX6_nextRule_X6_breaks rfl rfl rfl (by decide +kernel) ⟨Nat.le_of_ble_eq_true rfl, Nat.le_of_ble_eq_true rfl⟩) hl rfl (Nat.le_of_ble_eq_true rfl) ⟨Nat.zero_le _, Nat.zero_le _⟩ rfl dX6_nextRule_26 (fun H locs I => ?_)
        have hj37 : ∀ (v8 : Int32) (H : Heap) (locs : List Loc) (ls : Array Slot), (fX6_nextRule_j37 (fX6_nextRule_l9 G p1 n9) v2) v8 = some res → xI D A s (wX6 cI cC cZ h a F G) (xT cI cC cZ) H locs → lv_has ls 4 [(3, .int v2), (0, .ref h), (1, .int p1)] → W p l e (headSpec wsX6_nextRule rmX6_nextRule).room s m args below meth c H locs 0 0 Q (F0 m 37 ls [.int v8]) := by
          intro v8 H locs ls hf I hl
          replace hf := (fX6_nextRule_j37_e _ _ _).symm.trans hf
          refine lv_istore_n (lv' := [(2, .int v8), (3, .int v2), (0, .ref h), (1, .int p1)]) S.1 S.2.1 dX6_nextRule_37 rfl hl (by decide) rfl (fun ls hl => ?_)
          refine lv_iinc (v := (v2 + (-1))) (lv' := [(3, .int (v2 + (-1))), (2, .int v8), (0, .ref h), (1, .int p1)]) S.1 S.2.1 dX6_nextRule_38 hl (k := 1) rfl rfl (by decide) rfl (fun ls hl => ?_)
          refine lv_goto (tgt := 9) S.1 S.2.1 dX6_nextRule_41 (by decide) ?_
          exact ih9 v8 (v2 + (-1)) _ _ _ hf I (lv_sub hl [0, 1, 2, 3] rfl)
        refine lv_if_eq (tgt := 36) S.1 S.2.1 dX6_nextRule_29 (by decide) (fun c9 => ?_) (fun c9 => ?_)
        · replace hf := x_ifT hf c9
          refine lv_iload_n S.1 S.2.1 dX6_nextRule_36 rfl (lv_at hl 1 rfl) ?_
          exact hj37 v1 _ _ _ hf I (lv_sub hl [0, 2, 3] rfl)
        · replace hf := x_ifF hf c9
          refine lv_iload_n S.1 S.2.1 dX6_nextRule_32 rfl (lv_at hl 0 rfl) ?_
          refine lv_goto (tgt := 37) S.1 S.2.1 dX6_nextRule_33 (by decide) ?_
          exact hj37 v2 _ _ _ hf I (lv_sub hl [0, 2, 3] rfl)
  exact hl9 4096 (-1) ((F 21) - 1) _ _ _ hf I (lv_sub hl [0, 1, 2, 3] rfl)
set_option maxHeartbeats 4000000 in
set_option maxRecDepth 100000 in
theorem tX6_closed (l : Launch) (D : va_G) (cI cC cZ : ClassId) (h : Nat) (a : Nat → Nat) (F : xF) (G : xG) (p1 : Int32) (res : Int32) (hf : fX6_closed F G p1 = some res) : xC l yX6_closed wsX6_closed rmX6_closed D [.ref h, .int p1] (wX6 cI cC cZ h a F G) (fun _ => (wX6 cI cC cZ h a F G)) (xT cI cC cZ) (fun t => some (.int t)) res := by
  have kX6 : ∀ w ∈ u_ws RX6 TX6 32, w ∈ wsX6_closed := by decide +kernel
  refine x_of (cc := cX6_closed) (maxL := 4) (ret := (some .int)) (by decide) rfl (Nat.le_of_ble_eq_true rfl) ?_
  intro p e s m args below meth c A Q ls S I E hl
  replace hl : lv_has ls 4 [(0, .ref h), (1, .int p1)] := hl
  replace hf := (fX6_closed_e _ _ _).symm.trans hf
  refine lv_iload_n S.1 S.2.1 dX6_closed_0 rfl (lv_at hl 1 rfl) ?_
  refine lv_istore_n (lv' := [(2, .int p1), (0, .ref h), (1, .int p1)]) S.1 S.2.1 dX6_closed_1 rfl hl (by decide) rfl (fun ls hl => ?_)
  refine lv_aload_n S.1 S.2.1 dX6_closed_2 rfl (lv_at hl 1 rfl) ?_
  refine lv_iload_n S.1 S.2.1 dX6_closed_3 rfl (lv_at hl 0 rfl) ?_
  obtain ⟨r2, hg1, hf⟩ := x_b1E hf
  refine x_cA (As := [.int p1]) (rest := []) (st' := [.int r2]) (ws' := (wX6 cI cC cZ h a F G)) S I (tX6_nextRule l D cI cC cZ h a F G p1 r2 hg1) (cwV 1 S.2.2.2.2 gX6_closed_X6_nextRule rfl rfl rfl (by decide +kernel) ⟨Nat.le_of_ble_eq_true rfl, Nat.le_of_ble_eq_true rfl⟩) 0 5 rfl rfl rfl rfl hl rfl (Nat.le_of_ble_eq_true rfl) ⟨Nat.zero_le _, Nat.zero_le _⟩ rfl dX6_closed_4 (fun H locs I => ?_)
  refine lv_istore_n (lv' := [(3, .int r2), (2, .int p1), (0, .ref h), (1, .int p1)]) S.1 S.2.1 dX6_closed_7 rfl hl (by decide) rfl (fun ls hl => ?_)
  have hl8 : ∀ (n8 : Nat), ∀ (v3 : Int32) (v4 : Int32) (H : Heap) (locs : List Loc) (ls : Array Slot), (fX6_closed_l8 F G n8) v3 v4 = some res → xI D A s (wX6 cI cC cZ h a F G) (xT cI cC cZ) H locs → lv_has ls 4 [(3, .int v4), (2, .int v3), (0, .ref h)] → W p l e (headSpec wsX6_closed rmX6_closed).room s m args below meth c H locs 0 0 Q (F0 m 8 ls []) := by
    intro n8
    induction n8 with
    | zero =>
      intro v3 v4 H locs ls hf I hl
      cases (fX6_closed_l8_z _ _ _ _).symm.trans hf
    | succ n8 ih8 =>
      intro v3 v4 H locs ls hf I hl
      replace hf := (fX6_closed_l8_e _ _ _ _ _).symm.trans hf
      refine lv_iload_n S.1 S.2.1 dX6_closed_8 rfl (lv_at hl 0 rfl) ?_
      refine lv_iconst (v := (-1)) S.1 S.2.1 dX6_closed_9 (by decide) ?_
      refine lv_icmp_eq (tgt := 33) S.1 S.2.1 dX6_closed_10 (by decide) (fun c5 => ?_) (fun c5 => ?_)
      · replace hf := x_ifT hf c5
        refine lv_iload_n S.1 S.2.1 dX6_closed_33 rfl (lv_at hl 1 rfl) ?_
        exact x_ri E rfl rfl hf rfl I rfl dX6_closed_34
      · replace hf := x_ifF hf c5
        refine lv_iload_n S.1 S.2.1 dX6_closed_13 rfl (lv_at hl 1 rfl) ?_
        refine lv_iconst (v := 1) S.1 S.2.1 dX6_closed_14 (by decide) ?_
        refine lv_aload_n S.1 S.2.1 dX6_closed_15 rfl (lv_at hl 2 rfl) ?_
        refine x_get (C := RX6) (T := TX6) (N := 32) (ci := 5) (v := .ref (a 23)) S kX6 rfl I 0 23 rfl (by decide) (by decide +kernel) rfl dX6_closed_16 ?_
        refine lv_iload_n S.1 S.2.1 dX6_closed_19 rfl (lv_at hl 0 rfl) ?_
        obtain ⟨hi6, hf⟩ := x_ldE hf
        refine x_iald (f := (G 23)) S I 17 0 rfl rfl hi6 dX6_closed_20 ?_
        refine lv_ishl S.1 S.2.1 dX6_closed_21 ?_
        refine lv_ior S.1 S.2.1 dX6_closed_22 ?_
        refine lv_istore_n (lv' := [(2, .int (v3 ||| (x_shl 1 ((G 23) v4.toNatClampNeg)))), (3, .int v4), (0, .ref h)]) S.1 S.2.1 dX6_closed_23 rfl hl (by decide) rfl (fun ls hl => ?_)
        refine lv_aload_n S.1 S.2.1 dX6_closed_24 rfl (lv_at hl 2 rfl) ?_
        refine lv_iload_n S.1 S.2.1 dX6_closed_25 rfl (lv_at hl 0 rfl) ?_
        obtain ⟨r8, hg7, hf⟩ := x_b1E hf
        refine x_cA (As := [.int (v3 ||| (x_shl 1 ((G 23) v4.toNatClampNeg)))]) (rest := []) (st' := [.int r8]) (ws' := (wX6 cI cC cZ h a F G)) S I (tX6_nextRule l D cI cC cZ h a F G (v3 ||| (x_shl 1 ((G 23) v4.toNatClampNeg))) r8 hg7) (cwV 1 S.2.2.2.2 gX6_closed_X6_nextRule rfl rfl rfl (by decide +kernel) ⟨Nat.le_of_ble_eq_true rfl, Nat.le_of_ble_eq_true rfl⟩) 0 5 rfl rfl rfl rfl hl rfl (Nat.le_of_ble_eq_true rfl) ⟨Nat.zero_le _, Nat.zero_le _⟩ rfl dX6_closed_26 (fun H locs I => ?_)
        refine lv_istore_n (lv' := [(3, .int r8), (2, .int (v3 ||| (x_shl 1 ((G 23) v4.toNatClampNeg)))), (0, .ref h)]) S.1 S.2.1 dX6_closed_29 rfl hl (by decide) rfl (fun ls hl => ?_)
        refine lv_goto (tgt := 8) S.1 S.2.1 dX6_closed_30 (by decide) ?_
        exact ih8 (v3 ||| (x_shl 1 ((G 23) v4.toNatClampNeg))) r8 _ _ _ hf I (lv_sub hl [0, 1, 2] rfl)
  exact hl8 4096 p1 r2 _ _ _ hf I (lv_sub hl [0, 1, 2] rfl)
set_option maxHeartbeats 4000000 in
set_option maxRecDepth 100000 in
theorem tX6_proves (l : Launch) (D : va_G) (cI cC cZ : ClassId) (h : Nat) (a : Nat → Nat) (F : xF) (G : xG) (p1 : Int32) (res : Int32 × xF) (hf : fX6_proves F G p1 = some res) : xC l yX6_proves wsX6_proves rmX6_proves D [.ref h, .int p1] (wX6 cI cC cZ h a F G) (fun t => (wX6 cI cC cZ h a t.2 G)) (xT cI cC cZ) (fun t => some (.int t.1)) res := by
  refine x_of (cc := cX6_proves) (maxL := 2) (ret := (some .int)) (by decide) rfl (Nat.le_of_ble_eq_true rfl) ?_
  intro p e s m args below meth c A Q ls S I E hl
  replace hl : lv_has ls 2 [(0, .ref h), (1, .int p1)] := hl
  replace hf := (fX6_proves_e _ _ _).symm.trans hf
  refine lv_aload_n S.1 S.2.1 dX6_proves_0 rfl (lv_at hl 0 rfl) ?_
  refine lv_aload_n S.1 S.2.1 dX6_proves_1 rfl (lv_at hl 0 rfl) ?_
  refine lv_iload_n S.1 S.2.1 dX6_proves_2 rfl (lv_at hl 1 rfl) ?_
  obtain ⟨r2, hg1, hf⟩ := x_b1E hf
  refine x_cA (As := [.int p1]) (rest := [.ref h]) (st' := [.int r2, .ref h]) (ws' := (wX6 cI cC cZ h a F G)) S I (tX6_isSet l D cI cC cZ h a F G p1 r2 hg1) (cwV 1 S.2.2.2.2 gX6_proves_X6_isSet rfl rfl rfl (by decide +kernel) ⟨Nat.le_of_ble_eq_true rfl, Nat.le_of_ble_eq_true rfl⟩) 0 5 rfl rfl rfl rfl hl rfl (Nat.le_of_ble_eq_true rfl) ⟨Nat.zero_le _, Nat.zero_le _⟩ rfl dX6_proves_3 (fun H locs I => ?_)
  have hj14 : ∀ (v3 : Int32) (H : Heap) (locs : List Loc) (ls : Array Slot), (fX6_proves_j14 F G p1) v3 = some res → xI D A s (wX6 cI cC cZ h a F G) (xT cI cC cZ) H locs → lv_has ls 2 [(0, .ref h), (1, .int p1)] → W p l e (headSpec wsX6_proves rmX6_proves).room s m args below meth c H locs 0 0 Q (F0 m 14 ls [.int v3, .ref h]) := by
    intro v3 H locs ls hf I hl
    replace hf := (fX6_proves_j14_e _ _ _ _).symm.trans hf
    obtain ⟨r5, F6, hg4, hf⟩ := x_b2E hf
    refine x_cA (As := [.int v3]) (rest := []) (st' := [.int r5]) (ws' := (wX6 cI cC cZ h a F6 G)) S I (tX6_goesWell l D cI cC cZ h a F G v3 (r5, F6) hg4) (cwV 1 S.2.2.2.2 gX6_proves_X6_goesWell rfl rfl rfl (by decide +kernel) ⟨Nat.le_of_ble_eq_true rfl, Nat.le_of_ble_eq_true rfl⟩) 0 5 rfl rfl rfl rfl hl rfl (Nat.le_of_ble_eq_true rfl) ⟨Nat.zero_le _, Nat.zero_le _⟩ rfl dX6_proves_14 (fun H locs I => ?_)
    refine lv_if_eq (tgt := 28) S.1 S.2.1 dX6_proves_17 (by decide) (fun c7 => ?_) (fun c7 => ?_)
    · replace hf := x_ifT hf c7
      refine lv_iconst (v := 0) S.1 S.2.1 dX6_proves_28 (by decide) ?_
      exact x_ri E rfl rfl hf rfl I rfl dX6_proves_29
    · replace hf := x_ifF hf c7
      refine lv_aload_n S.1 S.2.1 dX6_proves_20 rfl (lv_at hl 0 rfl) ?_
      refine lv_iload_n S.1 S.2.1 dX6_proves_21 rfl (lv_at hl 1 rfl) ?_
      obtain ⟨r9, hg8, hf⟩ := x_b1E hf
      refine x_cA (As := [.int p1]) (rest := []) (st' := [.int r9]) (ws' := (wX6 cI cC cZ h a F6 G)) S I (tX6_closed l D cI cC cZ h a F6 G p1 r9 hg8) (cwV 1 S.2.2.2.2 gX6_proves_X6_closed rfl rfl rfl (by decide +kernel) ⟨Nat.le_of_ble_eq_true rfl, Nat.le_of_ble_eq_true rfl⟩) 0 5 rfl rfl rfl rfl hl rfl (Nat.le_of_ble_eq_true rfl) ⟨Nat.zero_le _, Nat.zero_le _⟩ rfl dX6_proves_22 (fun H locs I => ?_)
      refine lv_goto (tgt := 29) S.1 S.2.1 dX6_proves_25 (by decide) ?_
      exact x_ri E rfl rfl hf rfl I rfl dX6_proves_29
  refine lv_if_eq (tgt := 13) S.1 S.2.1 dX6_proves_6 (by decide) (fun c10 => ?_) (fun c10 => ?_)
  · replace hf := x_ifT hf c10
    refine lv_iconst (v := 1) S.1 S.2.1 dX6_proves_13 (by decide) ?_
    exact hj14 1 _ _ _ hf I (lv_sub hl [0, 1] rfl)
  · replace hf := x_ifF hf c10
    refine lv_iconst (v := 0) S.1 S.2.1 dX6_proves_9 (by decide) ?_
    refine lv_goto (tgt := 14) S.1 S.2.1 dX6_proves_10 (by decide) ?_
    exact hj14 0 _ _ _ hf I (lv_sub hl [0, 1] rfl)
