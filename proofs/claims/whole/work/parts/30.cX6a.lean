set_option maxHeartbeats 4000000 in
set_option maxRecDepth 100000 in
theorem tX6_thrown (l : Launch) (D : va_G) (cI cC cZ : ClassId) (h : Nat) (a : Nat → Nat) (F : xF) (G : xG) (res : Int32) (hf : fX6_thrown F = some res) : xC l yX6_thrown wsX6_thrown rmX6_thrown D [.ref h] (wX6 cI cC cZ h a F G) (fun _ => (wX6 cI cC cZ h a F G)) (xT cI cC cZ) (fun t => some (.int t)) res := by
  have kX6 : ∀ w ∈ u_ws RX6 TX6 32, w ∈ wsX6_thrown := by decide +kernel
  refine x_of (cc := cX6_thrown) (maxL := 1) (ret := (some .int)) (by decide) rfl (Nat.le_of_ble_eq_true rfl) ?_
  intro p e s m args below meth c A Q ls S I E hl
  replace hl : lv_has ls 1 [(0, .ref h)] := hl
  replace hf := (fX6_thrown_e _).symm.trans hf
  refine lv_aload_n S.1 S.2.1 dX6_thrown_0 rfl (lv_at hl 0 rfl) ?_
  refine x_get (C := RX6) (T := TX6) (N := 32) (ci := 5) (v := .int (F 0)) S kX6 rfl I 0 0 rfl (by decide) (by decide +kernel) rfl dX6_thrown_1 ?_
  exact x_ri E rfl rfl hf rfl I rfl dX6_thrown_4
set_option maxHeartbeats 4000000 in
set_option maxRecDepth 100000 in
theorem tX6_goesWell (l : Launch) (D : va_G) (cI cC cZ : ClassId) (h : Nat) (a : Nat → Nat) (F : xF) (G : xG) (p1 : Int32) (res : Int32 × xF) (hf : fX6_goesWell F p1 = some res) : xC l yX6_goesWell wsX6_goesWell rmX6_goesWell D [.ref h, .int p1] (wX6 cI cC cZ h a F G) (fun t => (wX6 cI cC cZ h a t.2 G)) (xT cI cC cZ) (fun t => some (.int t.1)) res := by
  have kX6 : ∀ w ∈ u_ws RX6 TX6 32, w ∈ wsX6_goesWell := by decide +kernel
  refine x_of (cc := cX6_goesWell) (maxL := 2) (ret := (some .boolean)) (by decide) rfl (Nat.le_of_ble_eq_true rfl) ?_
  intro p e s m args below meth c A Q ls S I E hl
  replace hl : lv_has ls 2 [(0, .ref h), (1, .int p1)] := hl
  replace hf := (fX6_goesWell_e _ _).symm.trans hf
  refine lv_aload_n S.1 S.2.1 dX6_goesWell_0 rfl (lv_at hl 0 rfl) ?_
  refine lv_iload_n S.1 S.2.1 dX6_goesWell_1 rfl (lv_at hl 1 rfl) ?_
  refine x_put (C := RX6) (T := TX6) (N := 32) (ci := 5) (ws' := (wX6 cI cC cZ h a (va_up F 0 p1) G)) S kX6 tyX6 tyX6_ok nmX6 rfl I 0 0 rfl (by decide) (by decide +kernel) rfl rfl (Nat.le_of_ble_eq_true rfl) rfl dX6_goesWell_2 (fun H locs I => ?_)
  refine lv_iload_n S.1 S.2.1 dX6_goesWell_5 rfl (lv_at hl 1 rfl) ?_
  refine lv_if_ne (tgt := 13) S.1 S.2.1 dX6_goesWell_6 (by decide) (fun c1 => ?_) (fun c1 => ?_)
  · replace hf := x_ifF hf c1
    refine lv_iconst (v := 0) S.1 S.2.1 dX6_goesWell_13 (by decide) ?_
    exact x_ri E rfl x_n0 hf rfl I rfl dX6_goesWell_14
  · replace hf := x_ifT hf c1
    refine lv_iconst (v := 1) S.1 S.2.1 dX6_goesWell_9 (by decide) ?_
    refine lv_goto (tgt := 14) S.1 S.2.1 dX6_goesWell_10 (by decide) ?_
    exact x_ri E rfl x_n1 hf rfl I rfl dX6_goesWell_14
set_option maxHeartbeats 4000000 in
set_option maxRecDepth 100000 in
theorem tX6_in (l : Launch) (D : va_G) (cI cC cZ : ClassId) (p1 p2 p3 : Int32) (res : Int32) (hf : fX6_in p1 p2 p3 = some res) : xC l yX6_in wsX6_in rmX6_in D [.int p1, .int p2, .int p3] [] (fun _ => []) (xT cI cC cZ) (fun t => some (.int t)) res := by
  refine x_of (cc := cX6_in) (maxL := 3) (ret := (some .boolean)) (by decide) rfl (Nat.le_of_ble_eq_true rfl) ?_
  intro p e s m args below meth c A Q ls S I E hl
  replace hl : lv_has ls 3 [(0, .int p1), (1, .int p2), (2, .int p3)] := hl
  replace hf := (fX6_in_e _ _ _).symm.trans hf
  refine lv_iload_n S.1 S.2.1 dX6_in_0 rfl (lv_at hl 0 rfl) ?_
  refine lv_iload_n S.1 S.2.1 dX6_in_1 rfl (lv_at hl 1 rfl) ?_
  refine lv_icmp_lt (tgt := 14) S.1 S.2.1 dX6_in_2 (by decide) (fun c1 => ?_) (fun c1 => ?_)
  · replace hf := x_ifT hf c1
    refine lv_iconst (v := 0) S.1 S.2.1 dX6_in_14 (by decide) ?_
    exact x_ri E rfl x_n0 hf rfl I rfl dX6_in_15
  · replace hf := x_ifF hf c1
    refine lv_iload_n S.1 S.2.1 dX6_in_5 rfl (lv_at hl 0 rfl) ?_
    refine lv_iload_n S.1 S.2.1 dX6_in_6 rfl (lv_at hl 2 rfl) ?_
    refine lv_icmp_gt (tgt := 14) S.1 S.2.1 dX6_in_7 (by decide) (fun c2 => ?_) (fun c2 => ?_)
    · replace hf := x_ifT hf c2
      refine lv_iconst (v := 0) S.1 S.2.1 dX6_in_14 (by decide) ?_
      exact x_ri E rfl x_n0 hf rfl I rfl dX6_in_15
    · replace hf := x_ifF hf c2
      refine lv_iconst (v := 1) S.1 S.2.1 dX6_in_10 (by decide) ?_
      refine lv_goto (tgt := 15) S.1 S.2.1 dX6_in_11 (by decide) ?_
      exact x_ri E rfl x_n1 hf rfl I rfl dX6_in_15
set_option maxHeartbeats 4000000 in
set_option maxRecDepth 100000 in
theorem tX6_variableOf (l : Launch) (D : va_G) (cI cC cZ : ClassId) (p1 : Int32) (res : Int32) (hf : fX6_variableOf p1 = some res) : xC l yX6_variableOf wsX6_variableOf rmX6_variableOf D [.int p1] [] (fun _ => []) (xT cI cC cZ) (fun t => some (.int t)) res := by
  refine x_of (cc := cX6_variableOf) (maxL := 1) (ret := (some .int)) (by decide) rfl (Nat.le_of_ble_eq_true rfl) ?_
  intro p e s m args below meth c A Q ls S I E hl
  replace hl : lv_has ls 1 [(0, .int p1)] := hl
  replace hf := (fX6_variableOf_e _).symm.trans hf
  refine lv_iload_n S.1 S.2.1 dX6_variableOf_0 rfl (lv_at hl 0 rfl) ?_
  refine lv_bipush (v := 120) S.1 S.2.1 dX6_variableOf_1 (by decide) ?_
  refine lv_bipush (v := 122) S.1 S.2.1 dX6_variableOf_3 (by decide) ?_
  obtain ⟨r2, hg1, hf⟩ := x_b1E hf
  refine x_c0 (As := [.int p1, .int 120, .int 122]) (rest := []) (st' := [.int r2]) S I rfl (tX6_in l D cI cC cZ p1 120 122 r2 hg1) (va_cwS 3 S.2.2.2.2 gX6_variableOf_X6_in rfl rfl rfl (by decide +kernel) ⟨Nat.le_of_ble_eq_true rfl, Nat.le_of_ble_eq_true rfl⟩) hl rfl (Nat.le_of_ble_eq_true rfl) ⟨Nat.zero_le _, Nat.zero_le _⟩ rfl dX6_variableOf_5 (fun H locs I => ?_)
  refine lv_if_eq (tgt := 18) S.1 S.2.1 dX6_variableOf_8 (by decide) (fun c3 => ?_) (fun c3 => ?_)
  · replace hf := x_ifT hf c3
    refine lv_iconst (v := (-1)) S.1 S.2.1 dX6_variableOf_18 (by decide) ?_
    exact x_ri E rfl rfl hf rfl I rfl dX6_variableOf_19
  · replace hf := x_ifF hf c3
    refine lv_iload_n S.1 S.2.1 dX6_variableOf_11 rfl (lv_at hl 0 rfl) ?_
    refine lv_bipush (v := 120) S.1 S.2.1 dX6_variableOf_12 (by decide) ?_
    refine lv_isub S.1 S.2.1 dX6_variableOf_14 ?_
    refine lv_goto (tgt := 19) S.1 S.2.1 dX6_variableOf_15 (by decide) ?_
    exact x_ri E rfl rfl hf rfl I rfl dX6_variableOf_19
set_option maxHeartbeats 4000000 in
set_option maxRecDepth 100000 in
theorem tX6_kindOf (l : Launch) (D : va_G) (cI cC cZ : ClassId) (p1 : Int32) (res : Int32) (hf : fX6_kindOf p1 = some res) : xC l yX6_kindOf wsX6_kindOf rmX6_kindOf D [.int p1] [] (fun _ => []) (xT cI cC cZ) (fun t => some (.int t)) res := by
  refine x_of (cc := cX6_kindOf) (maxL := 1) (ret := (some .int)) (by decide) rfl (Nat.le_of_ble_eq_true rfl) ?_
  intro p e s m args below meth c A Q ls S I E hl
  replace hl : lv_has ls 1 [(0, .int p1)] := hl
  replace hf := (fX6_kindOf_e _).symm.trans hf
  refine lv_iload_n S.1 S.2.1 dX6_kindOf_0 rfl (lv_at hl 0 rfl) ?_
  by_cases c1 : p1 = 33
  · replace hf := x_ifT hf c1
    refine lv_lookup (off := 103) (tgt := 104) S.1 S.2.1 dX6_kindOf_1 (by decide) (by rw [c1]; rfl) (by decide) ?_
    refine lv_iconst (v := 2) S.1 S.2.1 dX6_kindOf_104 (by decide) ?_
    exact x_ri E rfl rfl hf rfl I rfl dX6_kindOf_105
  · replace hf := x_ifF hf c1
    by_cases c2 : p1 = 38
    · replace hf := x_ifT hf c2
      refine lv_lookup (off := 105) (tgt := 106) S.1 S.2.1 dX6_kindOf_1 (by decide) ((lv_osw c1 (by decide)).trans (by rw [c2]; rfl)) (by decide) ?_
      refine lv_iconst (v := 3) S.1 S.2.1 dX6_kindOf_106 (by decide) ?_
      exact x_ri E rfl rfl hf rfl I rfl dX6_kindOf_107
    · replace hf := x_ifF hf c2
      by_cases c3 : p1 = 40
      · replace hf := x_ifT hf c3
        refine lv_lookup (off := 123) (tgt := 124) S.1 S.2.1 dX6_kindOf_1 (by decide) ((lv_osw c1 (by decide)).trans ((lv_osw c2 (by decide)).trans (by rw [c3]; rfl))) (by decide) ?_
        refine lv_bipush (v := 10) S.1 S.2.1 dX6_kindOf_124 (by decide) ?_
        exact x_ri E rfl rfl hf rfl I rfl dX6_kindOf_126
      · replace hf := x_ifF hf c3
        by_cases c4 : p1 = 60
        · replace hf := x_ifT hf c4
          refine lv_lookup (off := 99) (tgt := 100) S.1 S.2.1 dX6_kindOf_1 (by decide) ((lv_osw c1 (by decide)).trans ((lv_osw c2 (by decide)).trans ((lv_osw c3 (by decide)).trans (by rw [c4]; rfl)))) (by decide) ?_
          refine lv_iconst (v := 0) S.1 S.2.1 dX6_kindOf_100 (by decide) ?_
          exact x_ri E rfl rfl hf rfl I rfl dX6_kindOf_101
        · replace hf := x_ifF hf c4
          by_cases c5 : p1 = 61
          · replace hf := x_ifT hf c5
            refine lv_lookup (off := 101) (tgt := 102) S.1 S.2.1 dX6_kindOf_1 (by decide) ((lv_osw c1 (by decide)).trans ((lv_osw c2 (by decide)).trans ((lv_osw c3 (by decide)).trans ((lv_osw c4 (by decide)).trans (by rw [c5]; rfl))))) (by decide) ?_
            refine lv_iconst (v := 1) S.1 S.2.1 dX6_kindOf_102 (by decide) ?_
            exact x_ri E rfl rfl hf rfl I rfl dX6_kindOf_103
          · replace hf := x_ifF hf c5
            by_cases c6 : p1 = 62
            · replace hf := x_ifT hf c6
              refine lv_lookup (off := 109) (tgt := 110) S.1 S.2.1 dX6_kindOf_1 (by decide) ((lv_osw c1 (by decide)).trans ((lv_osw c2 (by decide)).trans ((lv_osw c3 (by decide)).trans ((lv_osw c4 (by decide)).trans ((lv_osw c5 (by decide)).trans (by rw [c6]; rfl)))))) (by decide) ?_
              refine lv_iconst (v := 5) S.1 S.2.1 dX6_kindOf_110 (by decide) ?_
              exact x_ri E rfl rfl hf rfl I rfl dX6_kindOf_111
            · replace hf := x_ifF hf c6
              by_cases c7 : p1 = 65
              · replace hf := x_ifT hf c7
                refine lv_lookup (off := 111) (tgt := 112) S.1 S.2.1 dX6_kindOf_1 (by decide) ((lv_osw c1 (by decide)).trans ((lv_osw c2 (by decide)).trans ((lv_osw c3 (by decide)).trans ((lv_osw c4 (by decide)).trans ((lv_osw c5 (by decide)).trans ((lv_osw c6 (by decide)).trans (by rw [c7]; rfl))))))) (by decide) ?_
                refine lv_bipush (v := 6) S.1 S.2.1 dX6_kindOf_112 (by decide) ?_
                exact x_ri E rfl rfl hf rfl I rfl dX6_kindOf_114
              · replace hf := x_ifF hf c7
                by_cases c8 : p1 = 69
                · replace hf := x_ifT hf c8
                  refine lv_lookup (off := 114) (tgt := 115) S.1 S.2.1 dX6_kindOf_1 (by decide) ((lv_osw c1 (by decide)).trans ((lv_osw c2 (by decide)).trans ((lv_osw c3 (by decide)).trans ((lv_osw c4 (by decide)).trans ((lv_osw c5 (by decide)).trans ((lv_osw c6 (by decide)).trans ((lv_osw c7 (by decide)).trans (by rw [c8]; rfl)))))))) (by decide) ?_
                  refine lv_bipush (v := 7) S.1 S.2.1 dX6_kindOf_115 (by decide) ?_
                  exact x_ri E rfl rfl hf rfl I rfl dX6_kindOf_117
                · replace hf := x_ifF hf c8
                  by_cases c9 : p1 = 97
                  · replace hf := x_ifT hf c9
                    refine lv_lookup (off := 117) (tgt := 118) S.1 S.2.1 dX6_kindOf_1 (by decide) ((lv_osw c1 (by decide)).trans ((lv_osw c2 (by decide)).trans ((lv_osw c3 (by decide)).trans ((lv_osw c4 (by decide)).trans ((lv_osw c5 (by decide)).trans ((lv_osw c6 (by decide)).trans ((lv_osw c7 (by decide)).trans ((lv_osw c8 (by decide)).trans (by rw [c9]; rfl))))))))) (by decide) ?_
                    refine lv_bipush (v := 8) S.1 S.2.1 dX6_kindOf_118 (by decide) ?_
                    exact x_ri E rfl rfl hf rfl I rfl dX6_kindOf_120
                  · replace hf := x_ifF hf c9
                    by_cases c10 : p1 = 101
                    · replace hf := x_ifT hf c10
                      refine lv_lookup (off := 120) (tgt := 121) S.1 S.2.1 dX6_kindOf_1 (by decide) ((lv_osw c1 (by decide)).trans ((lv_osw c2 (by decide)).trans ((lv_osw c3 (by decide)).trans ((lv_osw c4 (by decide)).trans ((lv_osw c5 (by decide)).trans ((lv_osw c6 (by decide)).trans ((lv_osw c7 (by decide)).trans ((lv_osw c8 (by decide)).trans ((lv_osw c9 (by decide)).trans (by rw [c10]; rfl)))))))))) (by decide) ?_
                      refine lv_bipush (v := 9) S.1 S.2.1 dX6_kindOf_121 (by decide) ?_
                      exact x_ri E rfl rfl hf rfl I rfl dX6_kindOf_123
                    · replace hf := x_ifF hf c10
                      by_cases c11 : p1 = 124
                      · replace hf := x_ifT hf c11
                        refine lv_lookup (off := 107) (tgt := 108) S.1 S.2.1 dX6_kindOf_1 (by decide) ((lv_osw c1 (by decide)).trans ((lv_osw c2 (by decide)).trans ((lv_osw c3 (by decide)).trans ((lv_osw c4 (by decide)).trans ((lv_osw c5 (by decide)).trans ((lv_osw c6 (by decide)).trans ((lv_osw c7 (by decide)).trans ((lv_osw c8 (by decide)).trans ((lv_osw c9 (by decide)).trans ((lv_osw c10 (by decide)).trans (by rw [c11]; rfl))))))))))) (by decide) ?_
                        refine lv_iconst (v := 4) S.1 S.2.1 dX6_kindOf_108 (by decide) ?_
                        exact x_ri E rfl rfl hf rfl I rfl dX6_kindOf_109
                      · replace hf := x_ifF hf c11
                        refine lv_lookup (off := 126) (tgt := 127) S.1 S.2.1 dX6_kindOf_1 (by decide) ((lv_osw c1 (by decide)).trans ((lv_osw c2 (by decide)).trans ((lv_osw c3 (by decide)).trans ((lv_osw c4 (by decide)).trans ((lv_osw c5 (by decide)).trans ((lv_osw c6 (by decide)).trans ((lv_osw c7 (by decide)).trans ((lv_osw c8 (by decide)).trans ((lv_osw c9 (by decide)).trans ((lv_osw c10 (by decide)).trans ((lv_osw c11 (by decide)).trans (rfl)))))))))))) (by decide) ?_
                        refine lv_iconst (v := (-1)) S.1 S.2.1 dX6_kindOf_127 (by decide) ?_
                        exact x_ri E rfl rfl hf rfl I rfl dX6_kindOf_128
set_option maxHeartbeats 4000000 in
set_option maxRecDepth 100000 in
theorem tX6_letter (l : Launch) (D : va_G) (cI cC cZ : ClassId) (h : Nat) (a : Nat → Nat) (F : xF) (G : xG) (p1 : Int32) (res : Int32 × xF × xG) (hf : fX6_letter F G p1 = some res) : xC l yX6_letter wsX6_letter rmX6_letter D [.ref h, .int p1] (wX6 cI cC cZ h a F G) (fun t => (wX6 cI cC cZ h a t.2.1 t.2.2)) (xT cI cC cZ) (fun t => some (.int t.1)) res := by
  have kX6 : ∀ w ∈ u_ws RX6 TX6 32, w ∈ wsX6_letter := by decide +kernel
  refine x_of (cc := cX6_letter) (maxL := 3) (ret := (some .int)) (by decide) rfl (Nat.le_of_ble_eq_true rfl) ?_
  intro p e s m args below meth c A Q ls S I E hl
  replace hl : lv_has ls 3 [(0, .ref h), (1, .int p1)] := hl
  replace hf := (fX6_letter_e _ _ _).symm.trans hf
  refine lv_iload_n S.1 S.2.1 dX6_letter_0 rfl (lv_at hl 1 rfl) ?_
  obtain ⟨r2, hg1, hf⟩ := x_b1E hf
  refine x_c0 (As := [.int p1]) (rest := []) (st' := [.int r2]) S I rfl (tX6_variableOf l D cI cC cZ p1 r2 hg1) (va_cwS 1 S.2.2.2.2 gX6_letter_X6_variableOf rfl rfl rfl (by decide +kernel) ⟨Nat.le_of_ble_eq_true rfl, Nat.le_of_ble_eq_true rfl⟩) hl rfl (Nat.le_of_ble_eq_true rfl) ⟨Nat.zero_le _, Nat.zero_le _⟩ rfl dX6_letter_1 (fun H locs I => ?_)
  refine lv_iconst (v := (-1)) S.1 S.2.1 dX6_letter_4 (by decide) ?_
  have hj27 : ∀ (v3 : Int32) (H : Heap) (locs : List Loc) (ls : Array Slot), (fX6_letter_j27 F G p1) v3 = some res → xI D A s (wX6 cI cC cZ h a F G) (xT cI cC cZ) H locs → lv_has ls 3 [(0, .ref h), (1, .int p1)] → W p l e (headSpec wsX6_letter rmX6_letter).room s m args below meth c H locs 0 0 Q (F0 m 27 ls [.int v3]) := by
    intro v3 H locs ls hf I hl
    replace hf := (fX6_letter_j27_e _ _ _ _).symm.trans hf
    refine lv_istore_n (lv' := [(2, .int v3), (0, .ref h), (1, .int p1)]) S.1 S.2.1 dX6_letter_27 rfl hl (by decide) rfl (fun ls hl => ?_)
    refine lv_aload_n S.1 S.2.1 dX6_letter_28 rfl (lv_at hl 1 rfl) ?_
    refine lv_iload_n S.1 S.2.1 dX6_letter_29 rfl (lv_at hl 0 rfl) ?_
    have hj51 : ∀ (v4 : Int32) (H : Heap) (locs : List Loc) (ls : Array Slot), (fX6_letter_j51 F G p1) v4 = some res → xI D A s (wX6 cI cC cZ h a F G) (xT cI cC cZ) H locs → lv_has ls 3 [(0, .ref h), (1, .int p1)] → W p l e (headSpec wsX6_letter rmX6_letter).room s m args below meth c H locs 0 0 Q (F0 m 51 ls [.int v4, .ref h]) := by
      intro v4 H locs ls hf I hl
      replace hf := (fX6_letter_j51_e _ _ _ _).symm.trans hf
      obtain ⟨r6, F7, hg5, hf⟩ := x_b2E hf
      refine x_cA (As := [.int v4]) (rest := []) (st' := [.int r6]) (ws' := (wX6 cI cC cZ h a F7 G)) S I (tX6_goesWell l D cI cC cZ h a F G v4 (r6, F7) hg5) (cwV 1 S.2.2.2.2 gX6_letter_X6_goesWell rfl rfl rfl (by decide +kernel) ⟨Nat.le_of_ble_eq_true rfl, Nat.le_of_ble_eq_true rfl⟩) 0 5 rfl rfl rfl rfl hl rfl (Nat.le_of_ble_eq_true rfl) ⟨Nat.zero_le _, Nat.zero_le _⟩ rfl dX6_letter_51 (fun H locs I => ?_)
      refine lv_if_ne (tgt := 59) S.1 S.2.1 dX6_letter_54 (by decide) (fun c8 => ?_) (fun c8 => ?_)
      · replace hf := x_ifF hf c8
        refine lv_aload_n S.1 S.2.1 dX6_letter_59 rfl (lv_at hl 0 rfl) ?_
        refine x_get (C := RX6) (T := TX6) (N := 32) (ci := 5) (v := .ref (a 2)) S kX6 rfl I 0 2 rfl (by decide) (by decide +kernel) rfl dX6_letter_60 ?_
        refine lv_aload_n S.1 S.2.1 dX6_letter_63 rfl (lv_at hl 0 rfl) ?_
        refine x_get (C := RX6) (T := TX6) (N := 32) (ci := 5) (v := .int (F7 1)) S kX6 rfl I 0 1 rfl (by decide) (by decide +kernel) rfl dX6_letter_64 ?_
        refine lv_iload_n S.1 S.2.1 dX6_letter_67 rfl (lv_at hl 1 rfl) ?_
        obtain ⟨hi9, hf⟩ := x_ldE hf
        refine x_cast (f := (G 2)) (ws' := (wX6 cI cC cZ h a F7 (va_up G 2 (upd (G 2) (F7 1).toNatClampNeg (x_cn p1))))) S I 1 1 rfl rfl hi9 rfl dX6_letter_68 (fun H locs I => ?_)
        refine lv_aload_n S.1 S.2.1 dX6_letter_69 rfl (lv_at hl 0 rfl) ?_
        refine lv_dup S.1 S.2.1 dX6_letter_70 rfl ?_
        refine x_get (C := RX6) (T := TX6) (N := 32) (ci := 5) (v := .int (F7 1)) S kX6 rfl I 0 1 rfl (by decide) (by decide +kernel) rfl dX6_letter_71 ?_
        refine lv_iconst (v := 1) S.1 S.2.1 dX6_letter_74 (by decide) ?_
        refine lv_iadd S.1 S.2.1 dX6_letter_75 ?_
        refine x_put (C := RX6) (T := TX6) (N := 32) (ci := 5) (ws' := (wX6 cI cC cZ h a (va_up F7 1 ((F7 1) + 1)) (va_up G 2 (upd (G 2) (F7 1).toNatClampNeg (x_cn p1))))) S kX6 tyX6 tyX6_ok nmX6 rfl I 0 1 rfl (by decide) (by decide +kernel) rfl rfl (Nat.le_of_ble_eq_true rfl) rfl dX6_letter_76 (fun H locs I => ?_)
        refine lv_aload_n S.1 S.2.1 dX6_letter_79 rfl (lv_at hl 0 rfl) ?_
        refine x_get (C := RX6) (T := TX6) (N := 32) (ci := 5) (v := .int ((F7 1) + 1)) S kX6 rfl I 0 1 rfl (by decide) (by decide +kernel) rfl dX6_letter_80 ?_
        exact x_ri E rfl rfl hf rfl I rfl dX6_letter_83
      · replace hf := x_ifT hf c8
        refine lv_iconst (v := 0) S.1 S.2.1 dX6_letter_57 (by decide) ?_
        exact x_ri E rfl rfl hf rfl I rfl dX6_letter_58
    refine lv_if_ne (tgt := 37) S.1 S.2.1 dX6_letter_30 (by decide) (fun c10 => ?_) (fun c10 => ?_)
    · replace hf := x_ifF hf c10
      refine lv_aload_n S.1 S.2.1 dX6_letter_37 rfl (lv_at hl 1 rfl) ?_
      refine x_get (C := RX6) (T := TX6) (N := 32) (ci := 5) (v := .int (F 1)) S kX6 rfl I 0 1 rfl (by decide) (by decide +kernel) rfl dX6_letter_38 ?_
      refine lv_bipush (v := 40) S.1 S.2.1 dX6_letter_41 (by decide) ?_
      refine lv_icmp_ne (tgt := 50) S.1 S.2.1 dX6_letter_43 (by decide) (fun c11 => ?_) (fun c11 => ?_)
      · replace hf := x_ifF hf c11
        refine lv_iconst (v := 0) S.1 S.2.1 dX6_letter_50 (by decide) ?_
        exact hj51 0 _ _ _ hf I (lv_sub hl [1, 2] rfl)
      · replace hf := x_ifT hf c11
        refine lv_iconst (v := 2) S.1 S.2.1 dX6_letter_46 (by decide) ?_
        refine lv_goto (tgt := 51) S.1 S.2.1 dX6_letter_47 (by decide) ?_
        exact hj51 2 _ _ _ hf I (lv_sub hl [1, 2] rfl)
    · replace hf := x_ifT hf c10
      refine lv_iconst (v := 1) S.1 S.2.1 dX6_letter_33 (by decide) ?_
      refine lv_goto (tgt := 51) S.1 S.2.1 dX6_letter_34 (by decide) ?_
      exact hj51 1 _ _ _ hf I (lv_sub hl [1, 2] rfl)
  have hj22 : ∀  (H : Heap) (locs : List Loc) (ls : Array Slot), (fX6_letter_j22 F G p1) = some res → xI D A s (wX6 cI cC cZ h a F G) (xT cI cC cZ) H locs → lv_has ls 3 [(0, .ref h), (1, .int p1)] → W p l e (headSpec wsX6_letter rmX6_letter).room s m args below meth c H locs 0 0 Q (F0 m 22 ls []) := by
    intro  H locs ls hf I hl
    replace hf := (fX6_letter_j22_e _ _ _).symm.trans hf
    refine lv_iconst (v := 1) S.1 S.2.1 dX6_letter_22 (by decide) ?_
    refine lv_goto (tgt := 27) S.1 S.2.1 dX6_letter_23 (by decide) ?_
    exact hj27 1 _ _ _ hf I (lv_sub hl [0, 1] rfl)
  refine lv_icmp_ne (tgt := 22) S.1 S.2.1 dX6_letter_5 (by decide) (fun c12 => ?_) (fun c12 => ?_)
  · replace hf := x_ifF hf c12
    exact hj22 _ _ _ hf I (lv_sub hl [0, 1] rfl)
  · replace hf := x_ifT hf c12
    refine lv_iload_n S.1 S.2.1 dX6_letter_8 rfl (lv_at hl 1 rfl) ?_
    obtain ⟨r14, hg13, hf⟩ := x_b1E hf
    refine x_c0 (As := [.int p1]) (rest := []) (st' := [.int r14]) S I rfl (tX6_kindOf l D cI cC cZ p1 r14 hg13) (va_cwS 1 S.2.2.2.2 gX6_letter_X6_kindOf rfl rfl rfl (by decide +kernel) ⟨Nat.le_of_ble_eq_true rfl, Nat.le_of_ble_eq_true rfl⟩) hl rfl (Nat.le_of_ble_eq_true rfl) ⟨Nat.zero_le _, Nat.zero_le _⟩ rfl dX6_letter_9 (fun H locs I => ?_)
    refine lv_iconst (v := (-1)) S.1 S.2.1 dX6_letter_12 (by decide) ?_
    refine lv_icmp_ne (tgt := 22) S.1 S.2.1 dX6_letter_13 (by decide) (fun c15 => ?_) (fun c15 => ?_)
    · replace hf := x_ifF hf c15
      exact hj22 _ _ _ hf I (lv_sub hl [0, 1] rfl)
    · replace hf := x_ifT hf c15
      refine lv_iload_n S.1 S.2.1 dX6_letter_16 rfl (lv_at hl 1 rfl) ?_
      refine lv_bipush (v := 41) S.1 S.2.1 dX6_letter_17 (by decide) ?_
      refine lv_icmp_ne (tgt := 26) S.1 S.2.1 dX6_letter_19 (by decide) (fun c16 => ?_) (fun c16 => ?_)
      · replace hf := x_ifF hf c16
        refine lv_iconst (v := 0) S.1 S.2.1 dX6_letter_26 (by decide) ?_
        exact hj27 0 _ _ _ hf I (lv_sub hl [0, 1] rfl)
      · replace hf := x_ifT hf c16
        exact hj22 _ _ _ hf I (lv_sub hl [0, 1] rfl)
set_option maxHeartbeats 4000000 in
set_option maxRecDepth 100000 in
theorem tX6_blank (l : Launch) (D : va_G) (cI cC cZ : ClassId) (h : Nat) (a : Nat → Nat) (F : xF) (G : xG) (res : Int32 × xF) (hf : fX6_blank F = some res) : xC l yX6_blank wsX6_blank rmX6_blank D [.ref h] (wX6 cI cC cZ h a F G) (fun t => (wX6 cI cC cZ h a t.2 G)) (xT cI cC cZ) (fun t => some (.int t.1)) res := by
  have kX6 : ∀ w ∈ u_ws RX6 TX6 32, w ∈ wsX6_blank := by decide +kernel
  refine x_of (cc := cX6_blank) (maxL := 2) (ret := (some .int)) (by decide) rfl (Nat.le_of_ble_eq_true rfl) ?_
  intro p e s m args below meth c A Q ls S I E hl
  replace hl : lv_has ls 2 [(0, .ref h)] := hl
  replace hf := (fX6_blank_e _).symm.trans hf
  refine lv_aload_n S.1 S.2.1 dX6_blank_0 rfl (lv_at hl 0 rfl) ?_
  refine lv_iconst (v := 0) S.1 S.2.1 dX6_blank_1 (by decide) ?_
  refine x_put (C := RX6) (T := TX6) (N := 32) (ci := 5) (ws' := (wX6 cI cC cZ h a (va_up F 0 0) G)) S kX6 tyX6 tyX6_ok nmX6 rfl I 0 0 rfl (by decide) (by decide +kernel) rfl rfl (Nat.le_of_ble_eq_true rfl) rfl dX6_blank_2 (fun H locs I => ?_)
  refine lv_aload_n S.1 S.2.1 dX6_blank_5 rfl (lv_at hl 0 rfl) ?_
  refine x_get (C := RX6) (T := TX6) (N := 32) (ci := 5) (v := .int (F 1)) S kX6 rfl I 0 1 rfl (by decide) (by decide +kernel) rfl dX6_blank_6 ?_
  refine lv_istore_n (lv' := [(1, .int (F 1)), (0, .ref h)]) S.1 S.2.1 dX6_blank_9 rfl hl (by decide) rfl (fun ls hl => ?_)
  refine lv_aload_n S.1 S.2.1 dX6_blank_10 rfl (lv_at hl 1 rfl) ?_
  refine lv_iconst (v := 0) S.1 S.2.1 dX6_blank_11 (by decide) ?_
  refine x_put (C := RX6) (T := TX6) (N := 32) (ci := 5) (ws' := (wX6 cI cC cZ h a (va_up (va_up F 0 0) 1 0) G)) S kX6 tyX6 tyX6_ok nmX6 rfl I 0 1 rfl (by decide) (by decide +kernel) rfl rfl (Nat.le_of_ble_eq_true rfl) rfl dX6_blank_12 (fun H locs I => ?_)
  refine lv_iload_n S.1 S.2.1 dX6_blank_15 rfl (lv_at hl 0 rfl) ?_
  exact x_ri E rfl rfl hf rfl I rfl dX6_blank_16
set_option maxHeartbeats 4000000 in
set_option maxRecDepth 100000 in
theorem tX6_lesser (l : Launch) (D : va_G) (cI cC cZ : ClassId) (p1 p2 : Int32) (res : Int32) (hf : fX6_lesser p1 p2 = some res) : xC l yX6_lesser wsX6_lesser rmX6_lesser D [.int p1, .int p2] [] (fun _ => []) (xT cI cC cZ) (fun t => some (.int t)) res := by
  refine x_of (cc := cX6_lesser) (maxL := 3) (ret := (some .int)) (by decide) rfl (Nat.le_of_ble_eq_true rfl) ?_
  intro p e s m args below meth c A Q ls S I E hl
  replace hl : lv_has ls 3 [(0, .int p1), (1, .int p2)] := hl
  replace hf := (fX6_lesser_e _ _).symm.trans hf
  refine lv_iload_n S.1 S.2.1 dX6_lesser_0 rfl (lv_at hl 0 rfl) ?_
  refine lv_iconst (v := 1) S.1 S.2.1 dX6_lesser_1 (by decide) ?_
  have hj10 : ∀ (v1 : Int32) (H : Heap) (locs : List Loc) (ls : Array Slot), (fX6_lesser_j10 p2) v1 = some res → xI D A s [] (xT cI cC cZ) H locs → lv_has ls 3 [(1, .int p2)] → W p l e (headSpec wsX6_lesser rmX6_lesser).room s m args below meth c H locs 0 0 Q (F0 m 10 ls [.int v1]) := by
    intro v1 H locs ls hf I hl
    replace hf := (fX6_lesser_j10_e _ _).symm.trans hf
    refine lv_istore_n (lv' := [(2, .int v1), (1, .int p2)]) S.1 S.2.1 dX6_lesser_10 rfl hl (by decide) rfl (fun ls hl => ?_)
    refine lv_iload_n S.1 S.2.1 dX6_lesser_11 rfl (lv_at hl 0 rfl) ?_
    refine lv_iload_n S.1 S.2.1 dX6_lesser_12 rfl (lv_at hl 1 rfl) ?_
    refine lv_iconst (v := 1) S.1 S.2.1 dX6_lesser_13 (by decide) ?_
    refine lv_iadd S.1 S.2.1 dX6_lesser_14 ?_
    refine lv_icmp_ge (tgt := 22) S.1 S.2.1 dX6_lesser_15 (by decide) (fun c2 => ?_) (fun c2 => ?_)
    · replace hf := x_ifT hf c2
      refine lv_iload_n S.1 S.2.1 dX6_lesser_22 rfl (lv_at hl 1 rfl) ?_
      refine lv_iconst (v := 1) S.1 S.2.1 dX6_lesser_23 (by decide) ?_
      refine lv_iadd S.1 S.2.1 dX6_lesser_24 ?_
      exact x_ri E rfl rfl hf rfl I rfl dX6_lesser_25
    · replace hf := x_ifF hf c2
      refine lv_iload_n S.1 S.2.1 dX6_lesser_18 rfl (lv_at hl 0 rfl) ?_
      refine lv_goto (tgt := 25) S.1 S.2.1 dX6_lesser_19 (by decide) ?_
      exact x_ri E rfl rfl hf rfl I rfl dX6_lesser_25
  refine lv_icmp_ge (tgt := 9) S.1 S.2.1 dX6_lesser_2 (by decide) (fun c3 => ?_) (fun c3 => ?_)
  · replace hf := x_ifT hf c3
    refine lv_iload_n S.1 S.2.1 dX6_lesser_9 rfl (lv_at hl 0 rfl) ?_
    exact hj10 p1 _ _ _ hf I (lv_sub hl [1] rfl)
  · replace hf := x_ifF hf c3
    refine lv_iconst (v := 1) S.1 S.2.1 dX6_lesser_5 (by decide) ?_
    refine lv_goto (tgt := 10) S.1 S.2.1 dX6_lesser_6 (by decide) ?_
    exact hj10 1 _ _ _ hf I (lv_sub hl [1] rfl)
set_option maxHeartbeats 4000000 in
set_option maxRecDepth 100000 in
theorem tX6_measure (l : Launch) (D : va_G) (cI cC cZ : ClassId) (h : Nat) (a : Nat → Nat) (F : xF) (G : xG) (p1 : Int32) (res : xG) (hf : fX6_measure G p1 = some res) : xC l yX6_measure wsX6_measure rmX6_measure D [.ref h, .int p1] (wX6 cI cC cZ h a F G) (fun t => (wX6 cI cC cZ h a F t)) (xT cI cC cZ) (fun _ => none) res := by
  have kX6 : ∀ w ∈ u_ws RX6 TX6 32, w ∈ wsX6_measure := by decide +kernel
  refine x_of (cc := cX6_measure) (maxL := 9) (ret := none) (by decide) rfl (Nat.le_of_ble_eq_true rfl) ?_
  intro p e s m args below meth c A Q ls S I E hl
  replace hl : lv_has ls 9 [(0, .ref h), (1, .int p1)] := hl
  replace hf := (fX6_measure_e _ _).symm.trans hf
  refine lv_aload_n S.1 S.2.1 dX6_measure_0 rfl (lv_at hl 0 rfl) ?_
  refine x_get (C := RX6) (T := TX6) (N := 32) (ci := 5) (v := .ref (a 5)) S kX6 rfl I 0 5 rfl (by decide) (by decide +kernel) rfl dX6_measure_1 ?_
  refine lv_iload_n S.1 S.2.1 dX6_measure_4 rfl (lv_at hl 1 rfl) ?_
  obtain ⟨hi1, hf⟩ := x_ldE hf
  refine x_iald (f := (G 5)) S I 3 0 rfl rfl hi1 dX6_measure_5 ?_
  refine lv_istore_n (lv' := [(2, .int ((G 5) p1.toNatClampNeg)), (0, .ref h), (1, .int p1)]) S.1 S.2.1 dX6_measure_6 rfl hl (by decide) rfl (fun ls hl => ?_)
  refine lv_aload_n S.1 S.2.1 dX6_measure_7 rfl (lv_at hl 1 rfl) ?_
  refine x_get (C := RX6) (T := TX6) (N := 32) (ci := 5) (v := .ref (a 6)) S kX6 rfl I 0 6 rfl (by decide) (by decide +kernel) rfl dX6_measure_8 ?_
  refine lv_iload_n S.1 S.2.1 dX6_measure_11 rfl (lv_at hl 2 rfl) ?_
  obtain ⟨hi2, hf⟩ := x_ldE hf
  refine x_iald (f := (G 6)) S I 4 0 rfl rfl hi2 dX6_measure_12 ?_
  refine lv_istore_n (lv' := [(3, .int ((G 6) p1.toNatClampNeg)), (2, .int ((G 5) p1.toNatClampNeg)), (0, .ref h), (1, .int p1)]) S.1 S.2.1 dX6_measure_13 rfl hl (by decide) rfl (fun ls hl => ?_)
  refine lv_iload_n S.1 S.2.1 dX6_measure_14 rfl (lv_at hl 1 rfl) ?_
  refine lv_iconst (v := (-1)) S.1 S.2.1 dX6_measure_15 (by decide) ?_
  have hj29 : ∀ (v3 : Int32) (H : Heap) (locs : List Loc) (ls : Array Slot), (fX6_measure_j29 G p1) v3 = some res → xI D A s (wX6 cI cC cZ h a F G) (xT cI cC cZ) H locs → lv_has ls 9 [(3, .int ((G 6) p1.toNatClampNeg)), (2, .int ((G 5) p1.toNatClampNeg)), (0, .ref h), (1, .int p1)] → W p l e (headSpec wsX6_measure rmX6_measure).room s m args below meth c H locs 0 0 Q (F0 m 29 ls [.int v3]) := by
    intro v3 H locs ls hf I hl
    replace hf := (fX6_measure_j29_e _ _ _).symm.trans hf
    refine lv_istore (lv' := [(4, .int v3), (3, .int ((G 6) p1.toNatClampNeg)), (2, .int ((G 5) p1.toNatClampNeg)), (0, .ref h), (1, .int p1)]) S.1 S.2.1 dX6_measure_29 hl (by decide) rfl (fun ls hl => ?_)
    refine lv_iload_n S.1 S.2.1 dX6_measure_31 rfl (lv_at hl 2 rfl) ?_
    refine lv_iconst (v := (-1)) S.1 S.2.1 dX6_measure_32 (by decide) ?_
    have hj46 : ∀ (v4 : Int32) (H : Heap) (locs : List Loc) (ls : Array Slot), (fX6_measure_j46 G p1 v3) v4 = some res → xI D A s (wX6 cI cC cZ h a F G) (xT cI cC cZ) H locs → lv_has ls 9 [(4, .int v3), (3, .int ((G 6) p1.toNatClampNeg)), (2, .int ((G 5) p1.toNatClampNeg)), (0, .ref h), (1, .int p1)] → W p l e (headSpec wsX6_measure rmX6_measure).room s m args below meth c H locs 0 0 Q (F0 m 46 ls [.int v4]) := by
      intro v4 H locs ls hf I hl
      replace hf := (fX6_measure_j46_e _ _ _ _).symm.trans hf
      refine lv_istore (lv' := [(5, .int v4), (4, .int v3), (3, .int ((G 6) p1.toNatClampNeg)), (2, .int ((G 5) p1.toNatClampNeg)), (0, .ref h), (1, .int p1)]) S.1 S.2.1 dX6_measure_46 hl (by decide) rfl (fun ls hl => ?_)
      refine lv_iload_n S.1 S.2.1 dX6_measure_48 rfl (lv_at hl 3 rfl) ?_
      refine lv_iconst (v := (-1)) S.1 S.2.1 dX6_measure_49 (by decide) ?_
      have hj63 : ∀ (v5 : Int32) (H : Heap) (locs : List Loc) (ls : Array Slot), (fX6_measure_j63 G p1 v3 v4) v5 = some res → xI D A s (wX6 cI cC cZ h a F G) (xT cI cC cZ) H locs → lv_has ls 9 [(5, .int v4), (4, .int v3), (3, .int ((G 6) p1.toNatClampNeg)), (2, .int ((G 5) p1.toNatClampNeg)), (0, .ref h), (1, .int p1)] → W p l e (headSpec wsX6_measure rmX6_measure).room s m args below meth c H locs 0 0 Q (F0 m 63 ls [.int v5]) := by
        intro v5 H locs ls hf I hl
        replace hf := (fX6_measure_j63_e _ _ _ _ _).symm.trans hf
        refine lv_istore (lv' := [(6, .int v5), (5, .int v4), (4, .int v3), (3, .int ((G 6) p1.toNatClampNeg)), (2, .int ((G 5) p1.toNatClampNeg)), (0, .ref h), (1, .int p1)]) S.1 S.2.1 dX6_measure_63 hl (by decide) rfl (fun ls hl => ?_)
        refine lv_aload_n S.1 S.2.1 dX6_measure_65 rfl (lv_at hl 5 rfl) ?_
        refine x_get (C := RX6) (T := TX6) (N := 32) (ci := 5) (v := .ref (a 7)) S kX6 rfl I 0 7 rfl (by decide) (by decide +kernel) rfl dX6_measure_66 ?_
        refine lv_iload_n S.1 S.2.1 dX6_measure_69 rfl (lv_at hl 6 rfl) ?_
        obtain ⟨hi6, hf⟩ := x_ldE hf
        refine x_iald (f := (G 7)) S I 5 0 rfl rfl hi6 dX6_measure_70 ?_
        refine lv_iconst (v := (-1)) S.1 S.2.1 dX6_measure_71 (by decide) ?_
        have hj87 : ∀ (v7 : Int32) (H : Heap) (locs : List Loc) (ls : Array Slot), (fX6_measure_j87 G p1 v3 v4 v5) v7 = some res → xI D A s (wX6 cI cC cZ h a F G) (xT cI cC cZ) H locs → lv_has ls 9 [(6, .int v5), (5, .int v4), (4, .int v3), (3, .int ((G 6) p1.toNatClampNeg)), (2, .int ((G 5) p1.toNatClampNeg)), (0, .ref h), (1, .int p1)] → W p l e (headSpec wsX6_measure rmX6_measure).room s m args below meth c H locs 0 0 Q (F0 m 87 ls [.int v7]) := by
          intro v7 H locs ls hf I hl
          replace hf := (fX6_measure_j87_e _ _ _ _ _ _).symm.trans hf
          refine lv_istore (lv' := [(7, .int v7), (6, .int v5), (5, .int v4), (4, .int v3), (3, .int ((G 6) p1.toNatClampNeg)), (2, .int ((G 5) p1.toNatClampNeg)), (0, .ref h), (1, .int p1)]) S.1 S.2.1 dX6_measure_87 hl (by decide) rfl (fun ls hl => ?_)
          refine lv_aload_n S.1 S.2.1 dX6_measure_89 rfl (lv_at hl 6 rfl) ?_
          refine x_get (C := RX6) (T := TX6) (N := 32) (ci := 5) (v := .ref (a 8)) S kX6 rfl I 0 8 rfl (by decide) (by decide +kernel) rfl dX6_measure_90 ?_
          refine lv_iload_n S.1 S.2.1 dX6_measure_93 rfl (lv_at hl 7 rfl) ?_
          obtain ⟨hi8, hf⟩ := x_ldE hf
          refine x_iald (f := (G 8)) S I 6 0 rfl rfl hi8 dX6_measure_94 ?_
          refine lv_iconst (v := (-1)) S.1 S.2.1 dX6_measure_95 (by decide) ?_
          have hj111 : ∀ (v9 : Int32) (H : Heap) (locs : List Loc) (ls : Array Slot), (fX6_measure_j111 G p1 v3 v4 v7 v5) v9 = some res → xI D A s (wX6 cI cC cZ h a F G) (xT cI cC cZ) H locs → lv_has ls 9 [(7, .int v7), (6, .int v5), (5, .int v4), (4, .int v3), (3, .int ((G 6) p1.toNatClampNeg)), (2, .int ((G 5) p1.toNatClampNeg)), (0, .ref h), (1, .int p1)] → W p l e (headSpec wsX6_measure rmX6_measure).room s m args below meth c H locs 0 0 Q (F0 m 111 ls [.int v9]) := by
            intro v9 H locs ls hf I hl
            replace hf := (fX6_measure_j111_e _ _ _ _ _ _ _).symm.trans hf
            refine lv_istore (lv' := [(8, .int v9), (7, .int v7), (6, .int v5), (5, .int v4), (4, .int v3), (3, .int ((G 6) p1.toNatClampNeg)), (2, .int ((G 5) p1.toNatClampNeg)), (0, .ref h), (1, .int p1)]) S.1 S.2.1 dX6_measure_111 hl (by decide) rfl (fun ls hl => ?_)
            refine lv_aload_n S.1 S.2.1 dX6_measure_113 rfl (lv_at hl 7 rfl) ?_
            refine x_get (C := RX6) (T := TX6) (N := 32) (ci := 5) (v := .ref (a 4)) S kX6 rfl I 0 4 rfl (by decide) (by decide +kernel) rfl dX6_measure_114 ?_
            refine lv_iload_n S.1 S.2.1 dX6_measure_117 rfl (lv_at hl 8 rfl) ?_
            obtain ⟨hi10, hf⟩ := x_ldE hf
            refine x_iald (f := (G 4)) S I 2 0 rfl rfl hi10 dX6_measure_118 ?_
            have hj367 : ∀ (v11 : Int32) (v12 : Int32) (v13 : Int32) (H : Heap) (locs : List Loc) (ls : Array Slot), (fX6_measure_j367 G p1) v11 v12 v13 = some res → xI D A s (wX6 cI cC cZ h a F G) (xT cI cC cZ) H locs → lv_has ls 9 [(6, .int v13), (5, .int v12), (4, .int v11), (0, .ref h), (1, .int p1)] → W p l e (headSpec wsX6_measure rmX6_measure).room s m args below meth c H locs 0 0 Q (F0 m 367 ls []) := by
              intro v11 v12 v13 H locs ls hf I hl
              replace hf := (fX6_measure_j367_e _ _ _ _ _).symm.trans hf
              refine lv_aload_n S.1 S.2.1 dX6_measure_367 rfl (lv_at hl 3 rfl) ?_
              refine x_get (C := RX6) (T := TX6) (N := 32) (ci := 5) (v := .ref (a 9)) S kX6 rfl I 0 9 rfl (by decide) (by decide +kernel) rfl dX6_measure_368 ?_
              refine lv_iload_n S.1 S.2.1 dX6_measure_371 rfl (lv_at hl 4 rfl) ?_
              refine lv_iload S.1 S.2.1 dX6_measure_372 (lv_at hl 2 rfl) ?_
              obtain ⟨hi14, hf⟩ := x_ldE hf
              refine x_iast (f := (G 9)) (ws' := (wX6 cI cC cZ h a F (va_up G 9 (upd (G 9) p1.toNatClampNeg v11)))) S I 7 0 rfl rfl hi14 rfl dX6_measure_374 (fun H locs I => ?_)
              refine lv_aload_n S.1 S.2.1 dX6_measure_375 rfl (lv_at hl 3 rfl) ?_
              refine x_get (C := RX6) (T := TX6) (N := 32) (ci := 5) (v := .ref (a 10)) S kX6 rfl I 0 10 rfl (by decide) (by decide +kernel) rfl dX6_measure_376 ?_
              refine lv_iload_n S.1 S.2.1 dX6_measure_379 rfl (lv_at hl 4 rfl) ?_
              refine lv_iload S.1 S.2.1 dX6_measure_380 (lv_at hl 1 rfl) ?_
              obtain ⟨hi15, hf⟩ := x_ldE hf
              refine x_iast (f := (G 10)) (ws' := (wX6 cI cC cZ h a F (va_up (va_up G 9 (upd (G 9) p1.toNatClampNeg v11)) 10 (upd (G 10) p1.toNatClampNeg v12)))) S I 8 0 rfl rfl hi15 rfl dX6_measure_382 (fun H locs I => ?_)
              refine lv_aload_n S.1 S.2.1 dX6_measure_383 rfl (lv_at hl 3 rfl) ?_
              refine x_get (C := RX6) (T := TX6) (N := 32) (ci := 5) (v := .ref (a 11)) S kX6 rfl I 0 11 rfl (by decide) (by decide +kernel) rfl dX6_measure_384 ?_
              refine lv_iload_n S.1 S.2.1 dX6_measure_387 rfl (lv_at hl 4 rfl) ?_
              refine lv_iload S.1 S.2.1 dX6_measure_388 (lv_at hl 0 rfl) ?_
              obtain ⟨hi16, hf⟩ := x_ldE hf
              refine x_iast (f := (G 11)) (ws' := (wX6 cI cC cZ h a F (va_up (va_up (va_up G 9 (upd (G 9) p1.toNatClampNeg v11)) 10 (upd (G 10) p1.toNatClampNeg v12)) 11 (upd (G 11) p1.toNatClampNeg v13)))) S I 9 0 rfl rfl hi16 rfl dX6_measure_390 (fun H locs I => ?_)
              exact x_rv E rfl hf rfl I rfl dX6_measure_391
            by_cases c17 : ((G 4) p1.toNatClampNeg) = 0
            · replace hf := x_ifT hf c17
              refine lv_tableIn (off := 45) (tgt := 164) S.1 S.2.1 dX6_measure_119 (by rw [c17]; decide) (by rw [c17]; decide) (by rw [c17]; rfl) (by decide) ?_
              refine lv_iload S.1 S.2.1 dX6_measure_164 (lv_at hl 1 rfl) ?_
              refine lv_iload S.1 S.2.1 dX6_measure_166 (lv_at hl 0 rfl) ?_
              refine lv_ior S.1 S.2.1 dX6_measure_168 ?_
              refine lv_istore (lv' := [(6, .int (v7 ||| v9)), (8, .int v9), (7, .int v7), (5, .int v4), (4, .int v3), (3, .int ((G 6) p1.toNatClampNeg)), (2, .int ((G 5) p1.toNatClampNeg)), (0, .ref h), (1, .int p1)]) S.1 S.2.1 dX6_measure_169 hl (by decide) rfl (fun ls hl => ?_)
              refine lv_goto (tgt := 367) S.1 S.2.1 dX6_measure_171 (by decide) ?_
              exact hj367 v3 v4 (v7 ||| v9) _ _ _ hf I (lv_sub hl [0, 3, 4, 7, 8] rfl)
            · replace hf := x_ifF hf c17
              by_cases c18 : ((G 4) p1.toNatClampNeg) = 1
              · replace hf := x_ifT hf c18
                refine lv_tableIn (off := 45) (tgt := 164) S.1 S.2.1 dX6_measure_119 (by rw [c18]; decide) (by rw [c18]; decide) (by rw [c18]; rfl) (by decide) ?_
                refine lv_iload S.1 S.2.1 dX6_measure_164 (lv_at hl 1 rfl) ?_
                refine lv_iload S.1 S.2.1 dX6_measure_166 (lv_at hl 0 rfl) ?_
                refine lv_ior S.1 S.2.1 dX6_measure_168 ?_
                refine lv_istore (lv' := [(6, .int (v7 ||| v9)), (8, .int v9), (7, .int v7), (5, .int v4), (4, .int v3), (3, .int ((G 6) p1.toNatClampNeg)), (2, .int ((G 5) p1.toNatClampNeg)), (0, .ref h), (1, .int p1)]) S.1 S.2.1 dX6_measure_169 hl (by decide) rfl (fun ls hl => ?_)
                refine lv_goto (tgt := 367) S.1 S.2.1 dX6_measure_171 (by decide) ?_
                exact hj367 v3 v4 (v7 ||| v9) _ _ _ hf I (lv_sub hl [0, 3, 4, 7, 8] rfl)
              · replace hf := x_ifF hf c18
                by_cases c19 : ((G 4) p1.toNatClampNeg) = 2
                · replace hf := x_ifT hf c19
                  refine lv_tableIn (off := 55) (tgt := 174) S.1 S.2.1 dX6_measure_119 (by rw [c19]; decide) (by rw [c19]; decide) (by rw [c19]; rfl) (by decide) ?_
                  refine lv_aload_n S.1 S.2.1 dX6_measure_174 rfl (lv_at hl 7 rfl) ?_
                  refine x_get (C := RX6) (T := TX6) (N := 32) (ci := 5) (v := .ref (a 10)) S kX6 rfl I 0 10 rfl (by decide) (by decide +kernel) rfl dX6_measure_175 ?_
                  refine lv_iload_n S.1 S.2.1 dX6_measure_178 rfl (lv_at hl 6 rfl) ?_
                  obtain ⟨hi20, hf⟩ := x_ldE hf
                  refine x_iald (f := (G 10)) S I 8 0 rfl rfl hi20 dX6_measure_179 ?_
                  refine lv_istore (lv' := [(4, .int ((G 10) ((G 5) p1.toNatClampNeg).toNatClampNeg)), (8, .int v9), (7, .int v7), (6, .int v5), (5, .int v4), (3, .int ((G 6) p1.toNatClampNeg)), (2, .int ((G 5) p1.toNatClampNeg)), (0, .ref h), (1, .int p1)]) S.1 S.2.1 dX6_measure_180 hl (by decide) rfl (fun ls hl => ?_)
                  refine lv_aload_n S.1 S.2.1 dX6_measure_182 rfl (lv_at hl 7 rfl) ?_
                  refine x_get (C := RX6) (T := TX6) (N := 32) (ci := 5) (v := .ref (a 9)) S kX6 rfl I 0 9 rfl (by decide) (by decide +kernel) rfl dX6_measure_183 ?_
                  refine lv_iload_n S.1 S.2.1 dX6_measure_186 rfl (lv_at hl 6 rfl) ?_
                  obtain ⟨hi21, hf⟩ := x_ldE hf
                  refine x_iald (f := (G 9)) S I 7 0 rfl rfl hi21 dX6_measure_187 ?_
                  refine lv_istore (lv' := [(5, .int ((G 9) ((G 5) p1.toNatClampNeg).toNatClampNeg)), (4, .int ((G 10) ((G 5) p1.toNatClampNeg).toNatClampNeg)), (8, .int v9), (7, .int v7), (6, .int v5), (3, .int ((G 6) p1.toNatClampNeg)), (2, .int ((G 5) p1.toNatClampNeg)), (0, .ref h), (1, .int p1)]) S.1 S.2.1 dX6_measure_188 hl (by decide) rfl (fun ls hl => ?_)
                  refine lv_goto (tgt := 367) S.1 S.2.1 dX6_measure_190 (by decide) ?_
                  exact hj367 ((G 10) ((G 5) p1.toNatClampNeg).toNatClampNeg) ((G 9) ((G 5) p1.toNatClampNeg).toNatClampNeg) v5 _ _ _ hf I (lv_sub hl [4, 0, 1, 7, 8] rfl)
                · replace hf := x_ifF hf c19
                  by_cases c22 : ((G 4) p1.toNatClampNeg) = 3
                  · replace hf := x_ifT hf c22
                    refine lv_tableIn (off := 74) (tgt := 193) S.1 S.2.1 dX6_measure_119 (by rw [c22]; decide) (by rw [c22]; decide) (by rw [c22]; rfl) (by decide) ?_
                    refine lv_aload_n S.1 S.2.1 dX6_measure_193 rfl (lv_at hl 7 rfl) ?_
                    refine x_get (C := RX6) (T := TX6) (N := 32) (ci := 5) (v := .ref (a 4)) S kX6 rfl I 0 4 rfl (by decide) (by decide +kernel) rfl dX6_measure_194 ?_
                    refine lv_iload_n S.1 S.2.1 dX6_measure_197 rfl (lv_at hl 8 rfl) ?_
                    obtain ⟨hi23, hf⟩ := x_ldE hf
                    refine x_iald (f := (G 4)) S I 2 0 rfl rfl hi23 dX6_measure_198 ?_
                    refine lv_iconst (v := 5) S.1 S.2.1 dX6_measure_199 (by decide) ?_
                    have hj214 : ∀ (v24 : Int32) (H : Heap) (locs : List Loc) (ls : Array Slot), (fX6_measure_j214 G p1 v5 v4) v24 = some res → xI D A s (wX6 cI cC cZ h a F G) (xT cI cC cZ) H locs → lv_has ls 9 [(6, .int v5), (5, .int v4), (3, .int ((G 6) p1.toNatClampNeg)), (2, .int ((G 5) p1.toNatClampNeg)), (0, .ref h), (1, .int p1)] → W p l e (headSpec wsX6_measure rmX6_measure).room s m args below meth c H locs 0 0 Q (F0 m 214 ls [.int v24]) := by
                      intro v24 H locs ls hf I hl
                      replace hf := (fX6_measure_j214_e _ _ _ _ _).symm.trans hf
                      refine lv_istore (lv' := [(4, .int v24), (6, .int v5), (5, .int v4), (3, .int ((G 6) p1.toNatClampNeg)), (2, .int ((G 5) p1.toNatClampNeg)), (0, .ref h), (1, .int p1)]) S.1 S.2.1 dX6_measure_214 hl (by decide) rfl (fun ls hl => ?_)
                      refine lv_aload_n S.1 S.2.1 dX6_measure_216 rfl (lv_at hl 5 rfl) ?_
                      refine x_get (C := RX6) (T := TX6) (N := 32) (ci := 5) (v := .ref (a 4)) S kX6 rfl I 0 4 rfl (by decide) (by decide +kernel) rfl dX6_measure_217 ?_
                      refine lv_iload_n S.1 S.2.1 dX6_measure_220 rfl (lv_at hl 6 rfl) ?_
                      obtain ⟨hi25, hf⟩ := x_ldE hf
                      refine x_iald (f := (G 4)) S I 2 0 rfl rfl hi25 dX6_measure_221 ?_
                      refine lv_iconst (v := 5) S.1 S.2.1 dX6_measure_222 (by decide) ?_
                      have hj237 : ∀ (v26 : Int32) (H : Heap) (locs : List Loc) (ls : Array Slot), (fX6_measure_j237 G p1 v24 v5) v26 = some res → xI D A s (wX6 cI cC cZ h a F G) (xT cI cC cZ) H locs → lv_has ls 9 [(4, .int v24), (6, .int v5), (3, .int ((G 6) p1.toNatClampNeg)), (0, .ref h), (1, .int p1)] → W p l e (headSpec wsX6_measure rmX6_measure).room s m args below meth c H locs 0 0 Q (F0 m 237 ls [.int v26]) := by
                        intro v26 H locs ls hf I hl
                        replace hf := (fX6_measure_j237_e _ _ _ _ _).symm.trans hf
                        refine lv_istore (lv' := [(5, .int v26), (4, .int v24), (6, .int v5), (3, .int ((G 6) p1.toNatClampNeg)), (0, .ref h), (1, .int p1)]) S.1 S.2.1 dX6_measure_237 hl (by decide) rfl (fun ls hl => ?_)
                        refine lv_aload_n S.1 S.2.1 dX6_measure_239 rfl (lv_at hl 4 rfl) ?_
                        refine x_get (C := RX6) (T := TX6) (N := 32) (ci := 5) (v := .ref (a 9)) S kX6 rfl I 0 9 rfl (by decide) (by decide +kernel) rfl dX6_measure_240 ?_
                        refine lv_iload_n S.1 S.2.1 dX6_measure_243 rfl (lv_at hl 3 rfl) ?_
                        obtain ⟨hi27, hf⟩ := x_ldE hf
                        refine x_iald (f := (G 9)) S I 7 0 rfl rfl hi27 dX6_measure_244 ?_
                        refine lv_iload S.1 S.2.1 dX6_measure_245 (lv_at hl 1 rfl) ?_
                        have hj261 : ∀ (v28 : Int32) (H : Heap) (locs : List Loc) (ls : Array Slot), (fX6_measure_j261 G p1 v26 v5) v28 = some res → xI D A s (wX6 cI cC cZ h a F G) (xT cI cC cZ) H locs → lv_has ls 9 [(5, .int v26), (6, .int v5), (3, .int ((G 6) p1.toNatClampNeg)), (0, .ref h), (1, .int p1)] → W p l e (headSpec wsX6_measure rmX6_measure).room s m args below meth c H locs 0 0 Q (F0 m 261 ls [.int v28]) := by
                          intro v28 H locs ls hf I hl
                          replace hf := (fX6_measure_j261_e _ _ _ _ _).symm.trans hf
                          refine lv_istore (lv' := [(4, .int v28), (5, .int v26), (6, .int v5), (3, .int ((G 6) p1.toNatClampNeg)), (0, .ref h), (1, .int p1)]) S.1 S.2.1 dX6_measure_261 hl (by decide) rfl (fun ls hl => ?_)
                          refine lv_aload_n S.1 S.2.1 dX6_measure_263 rfl (lv_at hl 4 rfl) ?_
                          refine x_get (C := RX6) (T := TX6) (N := 32) (ci := 5) (v := .ref (a 10)) S kX6 rfl I 0 10 rfl (by decide) (by decide +kernel) rfl dX6_measure_264 ?_
                          refine lv_iload_n S.1 S.2.1 dX6_measure_267 rfl (lv_at hl 3 rfl) ?_
                          obtain ⟨hi29, hf⟩ := x_ldE hf
                          refine x_iald (f := (G 10)) S I 8 0 rfl rfl hi29 dX6_measure_268 ?_
                          refine lv_iload S.1 S.2.1 dX6_measure_269 (lv_at hl 1 rfl) ?_
                          have hj285 : ∀ (v30 : Int32) (H : Heap) (locs : List Loc) (ls : Array Slot), (fX6_measure_j285 G p1 v28 v5) v30 = some res → xI D A s (wX6 cI cC cZ h a F G) (xT cI cC cZ) H locs → lv_has ls 9 [(4, .int v28), (6, .int v5), (3, .int ((G 6) p1.toNatClampNeg)), (0, .ref h), (1, .int p1)] → W p l e (headSpec wsX6_measure rmX6_measure).room s m args below meth c H locs 0 0 Q (F0 m 285 ls [.int v30]) := by
                            intro v30 H locs ls hf I hl
                            replace hf := (fX6_measure_j285_e _ _ _ _ _).symm.trans hf
                            refine lv_istore (lv' := [(5, .int v30), (4, .int v28), (6, .int v5), (3, .int ((G 6) p1.toNatClampNeg)), (0, .ref h), (1, .int p1)]) S.1 S.2.1 dX6_measure_285 hl (by decide) rfl (fun ls hl => ?_)
                            refine lv_iload S.1 S.2.1 dX6_measure_287 (lv_at hl 2 rfl) ?_
                            refine lv_aload_n S.1 S.2.1 dX6_measure_289 rfl (lv_at hl 4 rfl) ?_
                            refine x_get (C := RX6) (T := TX6) (N := 32) (ci := 5) (v := .ref (a 11)) S kX6 rfl I 0 11 rfl (by decide) (by decide +kernel) rfl dX6_measure_290 ?_
                            refine lv_iload_n S.1 S.2.1 dX6_measure_293 rfl (lv_at hl 3 rfl) ?_
                            obtain ⟨hi31, hf⟩ := x_ldE hf
                            refine x_iald (f := (G 11)) S I 9 0 rfl rfl hi31 dX6_measure_294 ?_
                            refine lv_ior S.1 S.2.1 dX6_measure_295 ?_
                            refine lv_istore (lv' := [(6, .int (v5 ||| ((G 11) ((G 6) p1.toNatClampNeg).toNatClampNeg))), (5, .int v30), (4, .int v28), (3, .int ((G 6) p1.toNatClampNeg)), (0, .ref h), (1, .int p1)]) S.1 S.2.1 dX6_measure_296 hl (by decide) rfl (fun ls hl => ?_)
                            refine lv_goto (tgt := 367) S.1 S.2.1 dX6_measure_298 (by decide) ?_
                            exact hj367 v28 v30 (v5 ||| ((G 11) ((G 6) p1.toNatClampNeg).toNatClampNeg)) _ _ _ hf I (lv_sub hl [0, 1, 2, 4, 5] rfl)
                          refine lv_icmp_le (tgt := 283) S.1 S.2.1 dX6_measure_271 (by decide) (fun c32 => ?_) (fun c32 => ?_)
                          · replace hf := x_ifT hf c32
                            refine lv_iload S.1 S.2.1 dX6_measure_283 (lv_at hl 1 rfl) ?_
                            exact hj285 v26 _ _ _ hf I (lv_sub hl [0, 2, 3, 4, 5] rfl)
                          · replace hf := x_ifF hf c32
                            refine lv_aload_n S.1 S.2.1 dX6_measure_274 rfl (lv_at hl 4 rfl) ?_
                            refine x_get (C := RX6) (T := TX6) (N := 32) (ci := 5) (v := .ref (a 10)) S kX6 rfl I 0 10 rfl (by decide) (by decide +kernel) rfl dX6_measure_275 ?_
                            refine lv_iload_n S.1 S.2.1 dX6_measure_278 rfl (lv_at hl 3 rfl) ?_
                            obtain ⟨hi33, hf⟩ := x_ldE hf
                            refine x_iald (f := (G 10)) S I 8 0 rfl rfl hi33 dX6_measure_279 ?_
                            refine lv_goto (tgt := 285) S.1 S.2.1 dX6_measure_280 (by decide) ?_
                            exact hj285 ((G 10) ((G 6) p1.toNatClampNeg).toNatClampNeg) _ _ _ hf I (lv_sub hl [0, 2, 3, 4, 5] rfl)
                        refine lv_icmp_le (tgt := 259) S.1 S.2.1 dX6_measure_247 (by decide) (fun c34 => ?_) (fun c34 => ?_)
                        · replace hf := x_ifT hf c34
                          refine lv_iload S.1 S.2.1 dX6_measure_259 (lv_at hl 1 rfl) ?_
                          exact hj261 v24 _ _ _ hf I (lv_sub hl [0, 2, 3, 4, 5] rfl)
                        · replace hf := x_ifF hf c34
                          refine lv_aload_n S.1 S.2.1 dX6_measure_250 rfl (lv_at hl 4 rfl) ?_
                          refine x_get (C := RX6) (T := TX6) (N := 32) (ci := 5) (v := .ref (a 9)) S kX6 rfl I 0 9 rfl (by decide) (by decide +kernel) rfl dX6_measure_251 ?_
                          refine lv_iload_n S.1 S.2.1 dX6_measure_254 rfl (lv_at hl 3 rfl) ?_
                          obtain ⟨hi35, hf⟩ := x_ldE hf
                          refine x_iald (f := (G 9)) S I 7 0 rfl rfl hi35 dX6_measure_255 ?_
                          refine lv_goto (tgt := 261) S.1 S.2.1 dX6_measure_256 (by decide) ?_
                          exact hj261 ((G 9) ((G 6) p1.toNatClampNeg).toNatClampNeg) _ _ _ hf I (lv_sub hl [0, 2, 3, 4, 5] rfl)
                      refine lv_icmp_ne (tgt := 235) S.1 S.2.1 dX6_measure_223 (by decide) (fun c36 => ?_) (fun c36 => ?_)
                      · replace hf := x_ifF hf c36
                        refine lv_iload S.1 S.2.1 dX6_measure_235 (lv_at hl 2 rfl) ?_
                        exact hj237 v4 _ _ _ hf I (lv_sub hl [0, 1, 3, 5, 6] rfl)
                      · replace hf := x_ifT hf c36
                        refine lv_aload_n S.1 S.2.1 dX6_measure_226 rfl (lv_at hl 5 rfl) ?_
                        refine x_get (C := RX6) (T := TX6) (N := 32) (ci := 5) (v := .ref (a 9)) S kX6 rfl I 0 9 rfl (by decide) (by decide +kernel) rfl dX6_measure_227 ?_
                        refine lv_iload_n S.1 S.2.1 dX6_measure_230 rfl (lv_at hl 4 rfl) ?_
                        obtain ⟨hi37, hf⟩ := x_ldE hf
                        refine x_iald (f := (G 9)) S I 7 0 rfl rfl hi37 dX6_measure_231 ?_
                        refine lv_goto (tgt := 237) S.1 S.2.1 dX6_measure_232 (by decide) ?_
                        exact hj237 ((G 9) ((G 5) p1.toNatClampNeg).toNatClampNeg) _ _ _ hf I (lv_sub hl [0, 1, 3, 5, 6] rfl)
                    refine lv_icmp_ne (tgt := 212) S.1 S.2.1 dX6_measure_200 (by decide) (fun c38 => ?_) (fun c38 => ?_)
                    · replace hf := x_ifF hf c38
                      refine lv_iload S.1 S.2.1 dX6_measure_212 (lv_at hl 4 rfl) ?_
                      exact hj214 v3 _ _ _ hf I (lv_sub hl [2, 3, 5, 6, 7, 8] rfl)
                    · replace hf := x_ifT hf c38
                      refine lv_aload_n S.1 S.2.1 dX6_measure_203 rfl (lv_at hl 7 rfl) ?_
                      refine x_get (C := RX6) (T := TX6) (N := 32) (ci := 5) (v := .ref (a 10)) S kX6 rfl I 0 10 rfl (by decide) (by decide +kernel) rfl dX6_measure_204 ?_
                      refine lv_iload_n S.1 S.2.1 dX6_measure_207 rfl (lv_at hl 6 rfl) ?_
                      obtain ⟨hi39, hf⟩ := x_ldE hf
                      refine x_iald (f := (G 10)) S I 8 0 rfl rfl hi39 dX6_measure_208 ?_
                      refine lv_goto (tgt := 214) S.1 S.2.1 dX6_measure_209 (by decide) ?_
                      exact hj214 ((G 10) ((G 5) p1.toNatClampNeg).toNatClampNeg) _ _ _ hf I (lv_sub hl [2, 3, 5, 6, 7, 8] rfl)
                  · replace hf := x_ifF hf c22
                    by_cases c40 : ((G 4) p1.toNatClampNeg) = 4
                    · replace hf := x_ifT hf c40
                      refine lv_tableIn (off := 74) (tgt := 193) S.1 S.2.1 dX6_measure_119 (by rw [c40]; decide) (by rw [c40]; decide) (by rw [c40]; rfl) (by decide) ?_
                      refine lv_aload_n S.1 S.2.1 dX6_measure_193 rfl (lv_at hl 7 rfl) ?_
                      refine x_get (C := RX6) (T := TX6) (N := 32) (ci := 5) (v := .ref (a 4)) S kX6 rfl I 0 4 rfl (by decide) (by decide +kernel) rfl dX6_measure_194 ?_
                      refine lv_iload_n S.1 S.2.1 dX6_measure_197 rfl (lv_at hl 8 rfl) ?_
                      obtain ⟨hi41, hf⟩ := x_ldE hf
                      refine x_iald (f := (G 4)) S I 2 0 rfl rfl hi41 dX6_measure_198 ?_
                      refine lv_iconst (v := 5) S.1 S.2.1 dX6_measure_199 (by decide) ?_
                      have hj214 : ∀ (v42 : Int32) (H : Heap) (locs : List Loc) (ls : Array Slot), (fX6_measure_j214' G p1 v5 v4) v42 = some res → xI D A s (wX6 cI cC cZ h a F G) (xT cI cC cZ) H locs → lv_has ls 9 [(6, .int v5), (5, .int v4), (3, .int ((G 6) p1.toNatClampNeg)), (2, .int ((G 5) p1.toNatClampNeg)), (0, .ref h), (1, .int p1)] → W p l e (headSpec wsX6_measure rmX6_measure).room s m args below meth c H locs 0 0 Q (F0 m 214 ls [.int v42]) := by
                        intro v42 H locs ls hf I hl
                        replace hf := (fX6_measure_j214'_e _ _ _ _ _).symm.trans hf
                        refine lv_istore (lv' := [(4, .int v42), (6, .int v5), (5, .int v4), (3, .int ((G 6) p1.toNatClampNeg)), (2, .int ((G 5) p1.toNatClampNeg)), (0, .ref h), (1, .int p1)]) S.1 S.2.1 dX6_measure_214 hl (by decide) rfl (fun ls hl => ?_)
                        refine lv_aload_n S.1 S.2.1 dX6_measure_216 rfl (lv_at hl 5 rfl) ?_
                        refine x_get (C := RX6) (T := TX6) (N := 32) (ci := 5) (v := .ref (a 4)) S kX6 rfl I 0 4 rfl (by decide) (by decide +kernel) rfl dX6_measure_217 ?_
                        refine lv_iload_n S.1 S.2.1 dX6_measure_220 rfl (lv_at hl 6 rfl) ?_
                        obtain ⟨hi43, hf⟩ := x_ldE hf
                        refine x_iald (f := (G 4)) S I 2 0 rfl rfl hi43 dX6_measure_221 ?_
                        refine lv_iconst (v := 5) S.1 S.2.1 dX6_measure_222 (by decide) ?_
                        have hj237 : ∀ (v44 : Int32) (H : Heap) (locs : List Loc) (ls : Array Slot), (fX6_measure_j237' G p1 v42 v5) v44 = some res → xI D A s (wX6 cI cC cZ h a F G) (xT cI cC cZ) H locs → lv_has ls 9 [(4, .int v42), (6, .int v5), (3, .int ((G 6) p1.toNatClampNeg)), (0, .ref h), (1, .int p1)] → W p l e (headSpec wsX6_measure rmX6_measure).room s m args below meth c H locs 0 0 Q (F0 m 237 ls [.int v44]) := by
                          intro v44 H locs ls hf I hl
                          replace hf := (fX6_measure_j237'_e _ _ _ _ _).symm.trans hf
                          refine lv_istore (lv' := [(5, .int v44), (4, .int v42), (6, .int v5), (3, .int ((G 6) p1.toNatClampNeg)), (0, .ref h), (1, .int p1)]) S.1 S.2.1 dX6_measure_237 hl (by decide) rfl (fun ls hl => ?_)
                          refine lv_aload_n S.1 S.2.1 dX6_measure_239 rfl (lv_at hl 4 rfl) ?_
                          refine x_get (C := RX6) (T := TX6) (N := 32) (ci := 5) (v := .ref (a 9)) S kX6 rfl I 0 9 rfl (by decide) (by decide +kernel) rfl dX6_measure_240 ?_
                          refine lv_iload_n S.1 S.2.1 dX6_measure_243 rfl (lv_at hl 3 rfl) ?_
                          obtain ⟨hi45, hf⟩ := x_ldE hf
                          refine x_iald (f := (G 9)) S I 7 0 rfl rfl hi45 dX6_measure_244 ?_
                          refine lv_iload S.1 S.2.1 dX6_measure_245 (lv_at hl 1 rfl) ?_
                          have hj261 : ∀ (v46 : Int32) (H : Heap) (locs : List Loc) (ls : Array Slot), (fX6_measure_j261' G p1 v44 v5) v46 = some res → xI D A s (wX6 cI cC cZ h a F G) (xT cI cC cZ) H locs → lv_has ls 9 [(5, .int v44), (6, .int v5), (3, .int ((G 6) p1.toNatClampNeg)), (0, .ref h), (1, .int p1)] → W p l e (headSpec wsX6_measure rmX6_measure).room s m args below meth c H locs 0 0 Q (F0 m 261 ls [.int v46]) := by
                            intro v46 H locs ls hf I hl
                            replace hf := (fX6_measure_j261'_e _ _ _ _ _).symm.trans hf
                            refine lv_istore (lv' := [(4, .int v46), (5, .int v44), (6, .int v5), (3, .int ((G 6) p1.toNatClampNeg)), (0, .ref h), (1, .int p1)]) S.1 S.2.1 dX6_measure_261 hl (by decide) rfl (fun ls hl => ?_)
                            refine lv_aload_n S.1 S.2.1 dX6_measure_263 rfl (lv_at hl 4 rfl) ?_
                            refine x_get (C := RX6) (T := TX6) (N := 32) (ci := 5) (v := .ref (a 10)) S kX6 rfl I 0 10 rfl (by decide) (by decide +kernel) rfl dX6_measure_264 ?_
                            refine lv_iload_n S.1 S.2.1 dX6_measure_267 rfl (lv_at hl 3 rfl) ?_
                            obtain ⟨hi47, hf⟩ := x_ldE hf
                            refine x_iald (f := (G 10)) S I 8 0 rfl rfl hi47 dX6_measure_268 ?_
                            refine lv_iload S.1 S.2.1 dX6_measure_269 (lv_at hl 1 rfl) ?_
                            have hj285 : ∀ (v48 : Int32) (H : Heap) (locs : List Loc) (ls : Array Slot), (fX6_measure_j285' G p1 v46 v5) v48 = some res → xI D A s (wX6 cI cC cZ h a F G) (xT cI cC cZ) H locs → lv_has ls 9 [(4, .int v46), (6, .int v5), (3, .int ((G 6) p1.toNatClampNeg)), (0, .ref h), (1, .int p1)] → W p l e (headSpec wsX6_measure rmX6_measure).room s m args below meth c H locs 0 0 Q (F0 m 285 ls [.int v48]) := by
                              intro v48 H locs ls hf I hl
                              replace hf := (fX6_measure_j285'_e _ _ _ _ _).symm.trans hf
                              refine lv_istore (lv' := [(5, .int v48), (4, .int v46), (6, .int v5), (3, .int ((G 6) p1.toNatClampNeg)), (0, .ref h), (1, .int p1)]) S.1 S.2.1 dX6_measure_285 hl (by decide) rfl (fun ls hl => ?_)
                              refine lv_iload S.1 S.2.1 dX6_measure_287 (lv_at hl 2 rfl) ?_
                              refine lv_aload_n S.1 S.2.1 dX6_measure_289 rfl (lv_at hl 4 rfl) ?_
                              refine x_get (C := RX6) (T := TX6) (N := 32) (ci := 5) (v := .ref (a 11)) S kX6 rfl I 0 11 rfl (by decide) (by decide +kernel) rfl dX6_measure_290 ?_
                              refine lv_iload_n S.1 S.2.1 dX6_measure_293 rfl (lv_at hl 3 rfl) ?_
                              obtain ⟨hi49, hf⟩ := x_ldE hf
                              refine x_iald (f := (G 11)) S I 9 0 rfl rfl hi49 dX6_measure_294 ?_
                              refine lv_ior S.1 S.2.1 dX6_measure_295 ?_
                              refine lv_istore (lv' := [(6, .int (v5 ||| ((G 11) ((G 6) p1.toNatClampNeg).toNatClampNeg))), (5, .int v48), (4, .int v46), (3, .int ((G 6) p1.toNatClampNeg)), (0, .ref h), (1, .int p1)]) S.1 S.2.1 dX6_measure_296 hl (by decide) rfl (fun ls hl => ?_)
                              refine lv_goto (tgt := 367) S.1 S.2.1 dX6_measure_298 (by decide) ?_
                              exact hj367 v46 v48 (v5 ||| ((G 11) ((G 6) p1.toNatClampNeg).toNatClampNeg)) _ _ _ hf I (lv_sub hl [0, 1, 2, 4, 5] rfl)
                            refine lv_icmp_le (tgt := 283) S.1 S.2.1 dX6_measure_271 (by decide) (fun c50 => ?_) (fun c50 => ?_)
                            · replace hf := x_ifT hf c50
                              refine lv_iload S.1 S.2.1 dX6_measure_283 (lv_at hl 1 rfl) ?_
                              exact hj285 v44 _ _ _ hf I (lv_sub hl [0, 2, 3, 4, 5] rfl)
                            · replace hf := x_ifF hf c50
                              refine lv_aload_n S.1 S.2.1 dX6_measure_274 rfl (lv_at hl 4 rfl) ?_
                              refine x_get (C := RX6) (T := TX6) (N := 32) (ci := 5) (v := .ref (a 10)) S kX6 rfl I 0 10 rfl (by decide) (by decide +kernel) rfl dX6_measure_275 ?_
                              refine lv_iload_n S.1 S.2.1 dX6_measure_278 rfl (lv_at hl 3 rfl) ?_
                              obtain ⟨hi51, hf⟩ := x_ldE hf
                              refine x_iald (f := (G 10)) S I 8 0 rfl rfl hi51 dX6_measure_279 ?_
                              refine lv_goto (tgt := 285) S.1 S.2.1 dX6_measure_280 (by decide) ?_
                              exact hj285 ((G 10) ((G 6) p1.toNatClampNeg).toNatClampNeg) _ _ _ hf I (lv_sub hl [0, 2, 3, 4, 5] rfl)
                          refine lv_icmp_le (tgt := 259) S.1 S.2.1 dX6_measure_247 (by decide) (fun c52 => ?_) (fun c52 => ?_)
                          · replace hf := x_ifT hf c52
                            refine lv_iload S.1 S.2.1 dX6_measure_259 (lv_at hl 1 rfl) ?_
                            exact hj261 v42 _ _ _ hf I (lv_sub hl [0, 2, 3, 4, 5] rfl)
                          · replace hf := x_ifF hf c52
                            refine lv_aload_n S.1 S.2.1 dX6_measure_250 rfl (lv_at hl 4 rfl) ?_
                            refine x_get (C := RX6) (T := TX6) (N := 32) (ci := 5) (v := .ref (a 9)) S kX6 rfl I 0 9 rfl (by decide) (by decide +kernel) rfl dX6_measure_251 ?_
                            refine lv_iload_n S.1 S.2.1 dX6_measure_254 rfl (lv_at hl 3 rfl) ?_
                            obtain ⟨hi53, hf⟩ := x_ldE hf
                            refine x_iald (f := (G 9)) S I 7 0 rfl rfl hi53 dX6_measure_255 ?_
                            refine lv_goto (tgt := 261) S.1 S.2.1 dX6_measure_256 (by decide) ?_
                            exact hj261 ((G 9) ((G 6) p1.toNatClampNeg).toNatClampNeg) _ _ _ hf I (lv_sub hl [0, 2, 3, 4, 5] rfl)
                        refine lv_icmp_ne (tgt := 235) S.1 S.2.1 dX6_measure_223 (by decide) (fun c54 => ?_) (fun c54 => ?_)
                        · replace hf := x_ifF hf c54
                          refine lv_iload S.1 S.2.1 dX6_measure_235 (lv_at hl 2 rfl) ?_
                          exact hj237 v4 _ _ _ hf I (lv_sub hl [0, 1, 3, 5, 6] rfl)
                        · replace hf := x_ifT hf c54
                          refine lv_aload_n S.1 S.2.1 dX6_measure_226 rfl (lv_at hl 5 rfl) ?_
                          refine x_get (C := RX6) (T := TX6) (N := 32) (ci := 5) (v := .ref (a 9)) S kX6 rfl I 0 9 rfl (by decide) (by decide +kernel) rfl dX6_measure_227 ?_
                          refine lv_iload_n S.1 S.2.1 dX6_measure_230 rfl (lv_at hl 4 rfl) ?_
                          obtain ⟨hi55, hf⟩ := x_ldE hf
                          refine x_iald (f := (G 9)) S I 7 0 rfl rfl hi55 dX6_measure_231 ?_
                          refine lv_goto (tgt := 237) S.1 S.2.1 dX6_measure_232 (by decide) ?_
                          exact hj237 ((G 9) ((G 5) p1.toNatClampNeg).toNatClampNeg) _ _ _ hf I (lv_sub hl [0, 1, 3, 5, 6] rfl)
                      refine lv_icmp_ne (tgt := 212) S.1 S.2.1 dX6_measure_200 (by decide) (fun c56 => ?_) (fun c56 => ?_)
                      · replace hf := x_ifF hf c56
                        refine lv_iload S.1 S.2.1 dX6_measure_212 (lv_at hl 4 rfl) ?_
                        exact hj214 v3 _ _ _ hf I (lv_sub hl [2, 3, 5, 6, 7, 8] rfl)
                      · replace hf := x_ifT hf c56
                        refine lv_aload_n S.1 S.2.1 dX6_measure_203 rfl (lv_at hl 7 rfl) ?_
                        refine x_get (C := RX6) (T := TX6) (N := 32) (ci := 5) (v := .ref (a 10)) S kX6 rfl I 0 10 rfl (by decide) (by decide +kernel) rfl dX6_measure_204 ?_
                        refine lv_iload_n S.1 S.2.1 dX6_measure_207 rfl (lv_at hl 6 rfl) ?_
                        obtain ⟨hi57, hf⟩ := x_ldE hf
                        refine x_iald (f := (G 10)) S I 8 0 rfl rfl hi57 dX6_measure_208 ?_
                        refine lv_goto (tgt := 214) S.1 S.2.1 dX6_measure_209 (by decide) ?_
                        exact hj214 ((G 10) ((G 5) p1.toNatClampNeg).toNatClampNeg) _ _ _ hf I (lv_sub hl [2, 3, 5, 6, 7, 8] rfl)
                    · replace hf := x_ifF hf c40
                      by_cases c58 : ((G 4) p1.toNatClampNeg) = 5
                      · replace hf := x_ifT hf c58
                        refine lv_tableIn (off := 74) (tgt := 193) S.1 S.2.1 dX6_measure_119 (by rw [c58]; decide) (by rw [c58]; decide) (by rw [c58]; rfl) (by decide) ?_
                        refine lv_aload_n S.1 S.2.1 dX6_measure_193 rfl (lv_at hl 7 rfl) ?_
                        refine x_get (C := RX6) (T := TX6) (N := 32) (ci := 5) (v := .ref (a 4)) S kX6 rfl I 0 4 rfl (by decide) (by decide +kernel) rfl dX6_measure_194 ?_
                        refine lv_iload_n S.1 S.2.1 dX6_measure_197 rfl (lv_at hl 8 rfl) ?_
                        obtain ⟨hi59, hf⟩ := x_ldE hf
                        refine x_iald (f := (G 4)) S I 2 0 rfl rfl hi59 dX6_measure_198 ?_
                        refine lv_iconst (v := 5) S.1 S.2.1 dX6_measure_199 (by decide) ?_
                        have hj214 : ∀ (v60 : Int32) (H : Heap) (locs : List Loc) (ls : Array Slot), (fX6_measure_j214'' G p1 v5 v4) v60 = some res → xI D A s (wX6 cI cC cZ h a F G) (xT cI cC cZ) H locs → lv_has ls 9 [(6, .int v5), (5, .int v4), (3, .int ((G 6) p1.toNatClampNeg)), (2, .int ((G 5) p1.toNatClampNeg)), (0, .ref h), (1, .int p1)] → W p l e (headSpec wsX6_measure rmX6_measure).room s m args below meth c H locs 0 0 Q (F0 m 214 ls [.int v60]) := by
                          intro v60 H locs ls hf I hl
                          replace hf := (fX6_measure_j214''_e _ _ _ _ _).symm.trans hf
                          refine lv_istore (lv' := [(4, .int v60), (6, .int v5), (5, .int v4), (3, .int ((G 6) p1.toNatClampNeg)), (2, .int ((G 5) p1.toNatClampNeg)), (0, .ref h), (1, .int p1)]) S.1 S.2.1 dX6_measure_214 hl (by decide) rfl (fun ls hl => ?_)
                          refine lv_aload_n S.1 S.2.1 dX6_measure_216 rfl (lv_at hl 5 rfl) ?_
                          refine x_get (C := RX6) (T := TX6) (N := 32) (ci := 5) (v := .ref (a 4)) S kX6 rfl I 0 4 rfl (by decide) (by decide +kernel) rfl dX6_measure_217 ?_
                          refine lv_iload_n S.1 S.2.1 dX6_measure_220 rfl (lv_at hl 6 rfl) ?_
                          obtain ⟨hi61, hf⟩ := x_ldE hf
                          refine x_iald (f := (G 4)) S I 2 0 rfl rfl hi61 dX6_measure_221 ?_
                          refine lv_iconst (v := 5) S.1 S.2.1 dX6_measure_222 (by decide) ?_
                          have hj237 : ∀ (v62 : Int32) (H : Heap) (locs : List Loc) (ls : Array Slot), (fX6_measure_j237'' G p1 v60 v5) v62 = some res → xI D A s (wX6 cI cC cZ h a F G) (xT cI cC cZ) H locs → lv_has ls 9 [(4, .int v60), (6, .int v5), (3, .int ((G 6) p1.toNatClampNeg)), (0, .ref h), (1, .int p1)] → W p l e (headSpec wsX6_measure rmX6_measure).room s m args below meth c H locs 0 0 Q (F0 m 237 ls [.int v62]) := by
                            intro v62 H locs ls hf I hl
                            replace hf := (fX6_measure_j237''_e _ _ _ _ _).symm.trans hf
                            refine lv_istore (lv' := [(5, .int v62), (4, .int v60), (6, .int v5), (3, .int ((G 6) p1.toNatClampNeg)), (0, .ref h), (1, .int p1)]) S.1 S.2.1 dX6_measure_237 hl (by decide) rfl (fun ls hl => ?_)
                            refine lv_aload_n S.1 S.2.1 dX6_measure_239 rfl (lv_at hl 4 rfl) ?_
                            refine x_get (C := RX6) (T := TX6) (N := 32) (ci := 5) (v := .ref (a 9)) S kX6 rfl I 0 9 rfl (by decide) (by decide +kernel) rfl dX6_measure_240 ?_
                            refine lv_iload_n S.1 S.2.1 dX6_measure_243 rfl (lv_at hl 3 rfl) ?_
                            obtain ⟨hi63, hf⟩ := x_ldE hf
                            refine x_iald (f := (G 9)) S I 7 0 rfl rfl hi63 dX6_measure_244 ?_
                            refine lv_iload S.1 S.2.1 dX6_measure_245 (lv_at hl 1 rfl) ?_
                            have hj261 : ∀ (v64 : Int32) (H : Heap) (locs : List Loc) (ls : Array Slot), (fX6_measure_j261'' G p1 v62 v5) v64 = some res → xI D A s (wX6 cI cC cZ h a F G) (xT cI cC cZ) H locs → lv_has ls 9 [(5, .int v62), (6, .int v5), (3, .int ((G 6) p1.toNatClampNeg)), (0, .ref h), (1, .int p1)] → W p l e (headSpec wsX6_measure rmX6_measure).room s m args below meth c H locs 0 0 Q (F0 m 261 ls [.int v64]) := by
                              intro v64 H locs ls hf I hl
                              replace hf := (fX6_measure_j261''_e _ _ _ _ _).symm.trans hf
                              refine lv_istore (lv' := [(4, .int v64), (5, .int v62), (6, .int v5), (3, .int ((G 6) p1.toNatClampNeg)), (0, .ref h), (1, .int p1)]) S.1 S.2.1 dX6_measure_261 hl (by decide) rfl (fun ls hl => ?_)
                              refine lv_aload_n S.1 S.2.1 dX6_measure_263 rfl (lv_at hl 4 rfl) ?_
                              refine x_get (C := RX6) (T := TX6) (N := 32) (ci := 5) (v := .ref (a 10)) S kX6 rfl I 0 10 rfl (by decide) (by decide +kernel) rfl dX6_measure_264 ?_
                              refine lv_iload_n S.1 S.2.1 dX6_measure_267 rfl (lv_at hl 3 rfl) ?_
                              obtain ⟨hi65, hf⟩ := x_ldE hf
                              refine x_iald (f := (G 10)) S I 8 0 rfl rfl hi65 dX6_measure_268 ?_
                              refine lv_iload S.1 S.2.1 dX6_measure_269 (lv_at hl 1 rfl) ?_
                              have hj285 : ∀ (v66 : Int32) (H : Heap) (locs : List Loc) (ls : Array Slot), (fX6_measure_j285'' G p1 v64 v5) v66 = some res → xI D A s (wX6 cI cC cZ h a F G) (xT cI cC cZ) H locs → lv_has ls 9 [(4, .int v64), (6, .int v5), (3, .int ((G 6) p1.toNatClampNeg)), (0, .ref h), (1, .int p1)] → W p l e (headSpec wsX6_measure rmX6_measure).room s m args below meth c H locs 0 0 Q (F0 m 285 ls [.int v66]) := by
                                intro v66 H locs ls hf I hl
                                replace hf := (fX6_measure_j285''_e _ _ _ _ _).symm.trans hf
                                refine lv_istore (lv' := [(5, .int v66), (4, .int v64), (6, .int v5), (3, .int ((G 6) p1.toNatClampNeg)), (0, .ref h), (1, .int p1)]) S.1 S.2.1 dX6_measure_285 hl (by decide) rfl (fun ls hl => ?_)
                                refine lv_iload S.1 S.2.1 dX6_measure_287 (lv_at hl 2 rfl) ?_
                                refine lv_aload_n S.1 S.2.1 dX6_measure_289 rfl (lv_at hl 4 rfl) ?_
                                refine x_get (C := RX6) (T := TX6) (N := 32) (ci := 5) (v := .ref (a 11)) S kX6 rfl I 0 11 rfl (by decide) (by decide +kernel) rfl dX6_measure_290 ?_
                                refine lv_iload_n S.1 S.2.1 dX6_measure_293 rfl (lv_at hl 3 rfl) ?_
                                obtain ⟨hi67, hf⟩ := x_ldE hf
                                refine x_iald (f := (G 11)) S I 9 0 rfl rfl hi67 dX6_measure_294 ?_
                                refine lv_ior S.1 S.2.1 dX6_measure_295 ?_
                                refine lv_istore (lv' := [(6, .int (v5 ||| ((G 11) ((G 6) p1.toNatClampNeg).toNatClampNeg))), (5, .int v66), (4, .int v64), (3, .int ((G 6) p1.toNatClampNeg)), (0, .ref h), (1, .int p1)]) S.1 S.2.1 dX6_measure_296 hl (by decide) rfl (fun ls hl => ?_)
                                refine lv_goto (tgt := 367) S.1 S.2.1 dX6_measure_298 (by decide) ?_
                                exact hj367 v64 v66 (v5 ||| ((G 11) ((G 6) p1.toNatClampNeg).toNatClampNeg)) _ _ _ hf I (lv_sub hl [0, 1, 2, 4, 5] rfl)
                              refine lv_icmp_le (tgt := 283) S.1 S.2.1 dX6_measure_271 (by decide) (fun c68 => ?_) (fun c68 => ?_)
                              · replace hf := x_ifT hf c68
                                refine lv_iload S.1 S.2.1 dX6_measure_283 (lv_at hl 1 rfl) ?_
                                exact hj285 v62 _ _ _ hf I (lv_sub hl [0, 2, 3, 4, 5] rfl)
                              · replace hf := x_ifF hf c68
                                refine lv_aload_n S.1 S.2.1 dX6_measure_274 rfl (lv_at hl 4 rfl) ?_
                                refine x_get (C := RX6) (T := TX6) (N := 32) (ci := 5) (v := .ref (a 10)) S kX6 rfl I 0 10 rfl (by decide) (by decide +kernel) rfl dX6_measure_275 ?_
                                refine lv_iload_n S.1 S.2.1 dX6_measure_278 rfl (lv_at hl 3 rfl) ?_
                                obtain ⟨hi69, hf⟩ := x_ldE hf
                                refine x_iald (f := (G 10)) S I 8 0 rfl rfl hi69 dX6_measure_279 ?_
                                refine lv_goto (tgt := 285) S.1 S.2.1 dX6_measure_280 (by decide) ?_
                                exact hj285 ((G 10) ((G 6) p1.toNatClampNeg).toNatClampNeg) _ _ _ hf I (lv_sub hl [0, 2, 3, 4, 5] rfl)
                            refine lv_icmp_le (tgt := 259) S.1 S.2.1 dX6_measure_247 (by decide) (fun c70 => ?_) (fun c70 => ?_)
                            · replace hf := x_ifT hf c70
                              refine lv_iload S.1 S.2.1 dX6_measure_259 (lv_at hl 1 rfl) ?_
                              exact hj261 v60 _ _ _ hf I (lv_sub hl [0, 2, 3, 4, 5] rfl)
                            · replace hf := x_ifF hf c70
                              refine lv_aload_n S.1 S.2.1 dX6_measure_250 rfl (lv_at hl 4 rfl) ?_
                              refine x_get (C := RX6) (T := TX6) (N := 32) (ci := 5) (v := .ref (a 9)) S kX6 rfl I 0 9 rfl (by decide) (by decide +kernel) rfl dX6_measure_251 ?_
                              refine lv_iload_n S.1 S.2.1 dX6_measure_254 rfl (lv_at hl 3 rfl) ?_
                              obtain ⟨hi71, hf⟩ := x_ldE hf
                              refine x_iald (f := (G 9)) S I 7 0 rfl rfl hi71 dX6_measure_255 ?_
                              refine lv_goto (tgt := 261) S.1 S.2.1 dX6_measure_256 (by decide) ?_
                              exact hj261 ((G 9) ((G 6) p1.toNatClampNeg).toNatClampNeg) _ _ _ hf I (lv_sub hl [0, 2, 3, 4, 5] rfl)
                          refine lv_icmp_ne (tgt := 235) S.1 S.2.1 dX6_measure_223 (by decide) (fun c72 => ?_) (fun c72 => ?_)
                          · replace hf := x_ifF hf c72
                            refine lv_iload S.1 S.2.1 dX6_measure_235 (lv_at hl 2 rfl) ?_
                            exact hj237 v4 _ _ _ hf I (lv_sub hl [0, 1, 3, 5, 6] rfl)
                          · replace hf := x_ifT hf c72
                            refine lv_aload_n S.1 S.2.1 dX6_measure_226 rfl (lv_at hl 5 rfl) ?_
                            refine x_get (C := RX6) (T := TX6) (N := 32) (ci := 5) (v := .ref (a 9)) S kX6 rfl I 0 9 rfl (by decide) (by decide +kernel) rfl dX6_measure_227 ?_
                            refine lv_iload_n S.1 S.2.1 dX6_measure_230 rfl (lv_at hl 4 rfl) ?_
                            obtain ⟨hi73, hf⟩ := x_ldE hf
                            refine x_iald (f := (G 9)) S I 7 0 rfl rfl hi73 dX6_measure_231 ?_
                            refine lv_goto (tgt := 237) S.1 S.2.1 dX6_measure_232 (by decide) ?_
                            exact hj237 ((G 9) ((G 5) p1.toNatClampNeg).toNatClampNeg) _ _ _ hf I (lv_sub hl [0, 1, 3, 5, 6] rfl)
                        refine lv_icmp_ne (tgt := 212) S.1 S.2.1 dX6_measure_200 (by decide) (fun c74 => ?_) (fun c74 => ?_)
                        · replace hf := x_ifF hf c74
                          refine lv_iload S.1 S.2.1 dX6_measure_212 (lv_at hl 4 rfl) ?_
                          exact hj214 v3 _ _ _ hf I (lv_sub hl [2, 3, 5, 6, 7, 8] rfl)
                        · replace hf := x_ifT hf c74
                          refine lv_aload_n S.1 S.2.1 dX6_measure_203 rfl (lv_at hl 7 rfl) ?_
                          refine x_get (C := RX6) (T := TX6) (N := 32) (ci := 5) (v := .ref (a 10)) S kX6 rfl I 0 10 rfl (by decide) (by decide +kernel) rfl dX6_measure_204 ?_
                          refine lv_iload_n S.1 S.2.1 dX6_measure_207 rfl (lv_at hl 6 rfl) ?_
                          obtain ⟨hi75, hf⟩ := x_ldE hf
                          refine x_iald (f := (G 10)) S I 8 0 rfl rfl hi75 dX6_measure_208 ?_
                          refine lv_goto (tgt := 214) S.1 S.2.1 dX6_measure_209 (by decide) ?_
                          exact hj214 ((G 10) ((G 5) p1.toNatClampNeg).toNatClampNeg) _ _ _ hf I (lv_sub hl [2, 3, 5, 6, 7, 8] rfl)
                      · replace hf := x_ifF hf c58
                        by_cases c76 : ((G 4) p1.toNatClampNeg) = 6
                        · replace hf := x_ifT hf c76
                          refine lv_tableIn (off := 209) (tgt := 328) S.1 S.2.1 dX6_measure_119 (by rw [c76]; decide) (by rw [c76]; decide) (by rw [c76]; rfl) (by decide) ?_
                          refine lv_iload S.1 S.2.1 dX6_measure_328 (lv_at hl 3 rfl) ?_
                          refine lv_iload S.1 S.2.1 dX6_measure_330 (lv_at hl 4 rfl) ?_
                          obtain ⟨r78, hg77, hf⟩ := x_b1E hf
                          refine x_c0 (As := [.int v4, .int v3]) (rest := []) (st' := [.int r78]) S I rfl (tX6_lesser l D cI cC cZ v4 v3 r78 hg77) (va_cwS 2 S.2.2.2.2 gX6_measure_X6_lesser rfl rfl rfl (by decide +kernel) ⟨Nat.le_of_ble_eq_true rfl, Nat.le_of_ble_eq_true rfl⟩) hl rfl (Nat.le_of_ble_eq_true rfl) ⟨Nat.zero_le _, Nat.zero_le _⟩ rfl dX6_measure_332 (fun H locs I => ?_)
                          refine lv_istore (lv' := [(5, .int r78), (8, .int v9), (7, .int v7), (6, .int v5), (4, .int v3), (3, .int ((G 6) p1.toNatClampNeg)), (2, .int ((G 5) p1.toNatClampNeg)), (0, .ref h), (1, .int p1)]) S.1 S.2.1 dX6_measure_335 hl (by decide) rfl (fun ls hl => ?_)
                          refine lv_iload S.1 S.2.1 dX6_measure_337 (lv_at hl 0 rfl) ?_
                          refine lv_iconst (v := 1) S.1 S.2.1 dX6_measure_339 (by decide) ?_
                          refine lv_iadd S.1 S.2.1 dX6_measure_340 ?_
                          refine lv_istore (lv' := [(4, .int (r78 + 1)), (5, .int r78), (8, .int v9), (7, .int v7), (6, .int v5), (3, .int ((G 6) p1.toNatClampNeg)), (2, .int ((G 5) p1.toNatClampNeg)), (0, .ref h), (1, .int p1)]) S.1 S.2.1 dX6_measure_341 hl (by decide) rfl (fun ls hl => ?_)
                          refine lv_iload S.1 S.2.1 dX6_measure_343 (lv_at hl 4 rfl) ?_
                          refine lv_iload S.1 S.2.1 dX6_measure_345 (lv_at hl 3 rfl) ?_
                          refine lv_iconst (v := (-1)) S.1 S.2.1 dX6_measure_347 (by decide) ?_
                          refine lv_ixor S.1 S.2.1 dX6_measure_348 ?_
                          refine lv_iand S.1 S.2.1 dX6_measure_349 ?_
                          refine lv_istore (lv' := [(6, .int (v5 &&& (v7 ^^^ (-1)))), (4, .int (r78 + 1)), (5, .int r78), (8, .int v9), (7, .int v7), (3, .int ((G 6) p1.toNatClampNeg)), (2, .int ((G 5) p1.toNatClampNeg)), (0, .ref h), (1, .int p1)]) S.1 S.2.1 dX6_measure_350 hl (by decide) rfl (fun ls hl => ?_)
                          refine lv_goto (tgt := 367) S.1 S.2.1 dX6_measure_352 (by decide) ?_
                          exact hj367 (r78 + 1) r78 (v5 &&& (v7 ^^^ (-1))) _ _ _ hf I (lv_sub hl [0, 2, 1, 7, 8] rfl)
                        · replace hf := x_ifF hf c76
                          by_cases c79 : ((G 4) p1.toNatClampNeg) = 7
                          · replace hf := x_ifT hf c79
                            refine lv_tableIn (off := 182) (tgt := 301) S.1 S.2.1 dX6_measure_119 (by rw [c79]; decide) (by rw [c79]; decide) (by rw [c79]; rfl) (by decide) ?_
                            refine lv_iload S.1 S.2.1 dX6_measure_301 (lv_at hl 4 rfl) ?_
                            refine lv_iload S.1 S.2.1 dX6_measure_303 (lv_at hl 3 rfl) ?_
                            obtain ⟨r81, hg80, hf⟩ := x_b1E hf
                            refine x_c0 (As := [.int v3, .int v4]) (rest := []) (st' := [.int r81]) S I rfl (tX6_lesser l D cI cC cZ v3 v4 r81 hg80) (va_cwS 2 S.2.2.2.2 gX6_measure_X6_lesser rfl rfl rfl (by decide +kernel) ⟨Nat.le_of_ble_eq_true rfl, Nat.le_of_ble_eq_true rfl⟩) hl rfl (Nat.le_of_ble_eq_true rfl) ⟨Nat.zero_le _, Nat.zero_le _⟩ rfl dX6_measure_305 (fun H locs I => ?_)
                            refine lv_istore (lv' := [(4, .int r81), (8, .int v9), (7, .int v7), (6, .int v5), (5, .int v4), (3, .int ((G 6) p1.toNatClampNeg)), (2, .int ((G 5) p1.toNatClampNeg)), (0, .ref h), (1, .int p1)]) S.1 S.2.1 dX6_measure_308 hl (by decide) rfl (fun ls hl => ?_)
                            refine lv_iload S.1 S.2.1 dX6_measure_310 (lv_at hl 0 rfl) ?_
                            refine lv_iconst (v := 1) S.1 S.2.1 dX6_measure_312 (by decide) ?_
                            refine lv_iadd S.1 S.2.1 dX6_measure_313 ?_
                            refine lv_istore (lv' := [(5, .int (r81 + 1)), (4, .int r81), (8, .int v9), (7, .int v7), (6, .int v5), (3, .int ((G 6) p1.toNatClampNeg)), (2, .int ((G 5) p1.toNatClampNeg)), (0, .ref h), (1, .int p1)]) S.1 S.2.1 dX6_measure_314 hl (by decide) rfl (fun ls hl => ?_)
                            refine lv_iload S.1 S.2.1 dX6_measure_316 (lv_at hl 4 rfl) ?_
                            refine lv_iload S.1 S.2.1 dX6_measure_318 (lv_at hl 3 rfl) ?_
                            refine lv_iconst (v := (-1)) S.1 S.2.1 dX6_measure_320 (by decide) ?_
                            refine lv_ixor S.1 S.2.1 dX6_measure_321 ?_
                            refine lv_iand S.1 S.2.1 dX6_measure_322 ?_
                            refine lv_istore (lv' := [(6, .int (v5 &&& (v7 ^^^ (-1)))), (5, .int (r81 + 1)), (4, .int r81), (8, .int v9), (7, .int v7), (3, .int ((G 6) p1.toNatClampNeg)), (2, .int ((G 5) p1.toNatClampNeg)), (0, .ref h), (1, .int p1)]) S.1 S.2.1 dX6_measure_323 hl (by decide) rfl (fun ls hl => ?_)
                            refine lv_goto (tgt := 367) S.1 S.2.1 dX6_measure_325 (by decide) ?_
                            exact hj367 r81 (r81 + 1) (v5 &&& (v7 ^^^ (-1))) _ _ _ hf I (lv_sub hl [0, 1, 2, 7, 8] rfl)
                          · replace hf := x_ifF hf c79
                            refine lv_tableOut (tgt := 355) S.1 S.2.1 dX6_measure_119 (by have e0 := lv_neT c17 (a := 0) (by decide); have e1 := lv_neT c18 (a := 1) (by decide); have e2 := lv_neT c19 (a := 2) (by decide); have e3 := lv_neT c22 (a := 3) (by decide); have e4 := lv_neT c40 (a := 4) (by decide); have e5 := lv_neT c58 (a := 5) (by decide); have e6 := lv_neT c76 (a := 6) (by decide); have e7 := lv_neT c79 (a := 7) (by decide); omega) (by decide) ?_
                            refine lv_iload S.1 S.2.1 dX6_measure_355 (lv_at hl 2 rfl) ?_
                            refine lv_iload S.1 S.2.1 dX6_measure_357 (lv_at hl 1 rfl) ?_
                            refine lv_iconst (v := (-1)) S.1 S.2.1 dX6_measure_359 (by decide) ?_
                            refine lv_ixor S.1 S.2.1 dX6_measure_360 ?_
                            refine lv_iand S.1 S.2.1 dX6_measure_361 ?_
                            refine lv_iload S.1 S.2.1 dX6_measure_362 (lv_at hl 0 rfl) ?_
                            refine lv_ior S.1 S.2.1 dX6_measure_364 ?_
                            refine lv_istore (lv' := [(6, .int ((v5 &&& (v7 ^^^ (-1))) ||| v9)), (8, .int v9), (7, .int v7), (5, .int v4), (4, .int v3), (3, .int ((G 6) p1.toNatClampNeg)), (2, .int ((G 5) p1.toNatClampNeg)), (0, .ref h), (1, .int p1)]) S.1 S.2.1 dX6_measure_365 hl (by decide) rfl (fun ls hl => ?_)
                            exact hj367 v3 v4 ((v5 &&& (v7 ^^^ (-1))) ||| v9) _ _ _ hf I (lv_sub hl [0, 3, 4, 7, 8] rfl)
          refine lv_icmp_ne (tgt := 103) S.1 S.2.1 dX6_measure_96 (by decide) (fun c82 => ?_) (fun c82 => ?_)
          · replace hf := x_ifF hf c82
            refine lv_iconst (v := 1) S.1 S.2.1 dX6_measure_103 (by decide) ?_
            refine lv_aload_n S.1 S.2.1 dX6_measure_104 rfl (lv_at hl 6 rfl) ?_
            refine x_get (C := RX6) (T := TX6) (N := 32) (ci := 5) (v := .ref (a 8)) S kX6 rfl I 0 8 rfl (by decide) (by decide +kernel) rfl dX6_measure_105 ?_
            refine lv_iload_n S.1 S.2.1 dX6_measure_108 rfl (lv_at hl 7 rfl) ?_
            obtain ⟨hi83, hf⟩ := x_ldE hf
            refine x_iald (f := (G 8)) S I 6 0 rfl rfl hi83 dX6_measure_109 ?_
            refine lv_ishl S.1 S.2.1 dX6_measure_110 ?_
            exact hj111 (x_shl 1 ((G 8) p1.toNatClampNeg)) _ _ _ hf I (lv_sub hl [0, 1, 2, 3, 4, 5, 6, 7] rfl)
          · replace hf := x_ifT hf c82
            refine lv_iconst (v := 0) S.1 S.2.1 dX6_measure_99 (by decide) ?_
            refine lv_goto (tgt := 111) S.1 S.2.1 dX6_measure_100 (by decide) ?_
            exact hj111 0 _ _ _ hf I (lv_sub hl [0, 1, 2, 3, 4, 5, 6, 7] rfl)
        refine lv_icmp_ne (tgt := 79) S.1 S.2.1 dX6_measure_72 (by decide) (fun c84 => ?_) (fun c84 => ?_)
        · replace hf := x_ifF hf c84
          refine lv_iconst (v := 1) S.1 S.2.1 dX6_measure_79 (by decide) ?_
          refine lv_aload_n S.1 S.2.1 dX6_measure_80 rfl (lv_at hl 5 rfl) ?_
          refine x_get (C := RX6) (T := TX6) (N := 32) (ci := 5) (v := .ref (a 7)) S kX6 rfl I 0 7 rfl (by decide) (by decide +kernel) rfl dX6_measure_81 ?_
          refine lv_iload_n S.1 S.2.1 dX6_measure_84 rfl (lv_at hl 6 rfl) ?_
          obtain ⟨hi85, hf⟩ := x_ldE hf
          refine x_iald (f := (G 7)) S I 5 0 rfl rfl hi85 dX6_measure_85 ?_
          refine lv_ishl S.1 S.2.1 dX6_measure_86 ?_
          exact hj87 (x_shl 1 ((G 7) p1.toNatClampNeg)) _ _ _ hf I (lv_sub hl [0, 1, 2, 3, 4, 5, 6] rfl)
        · replace hf := x_ifT hf c84
          refine lv_iconst (v := 0) S.1 S.2.1 dX6_measure_75 (by decide) ?_
          refine lv_goto (tgt := 87) S.1 S.2.1 dX6_measure_76 (by decide) ?_
          exact hj87 0 _ _ _ hf I (lv_sub hl [0, 1, 2, 3, 4, 5, 6] rfl)
      refine lv_icmp_ne (tgt := 57) S.1 S.2.1 dX6_measure_50 (by decide) (fun c86 => ?_) (fun c86 => ?_)
      · replace hf := x_ifF hf c86
        refine lv_aload_n S.1 S.2.1 dX6_measure_57 rfl (lv_at hl 4 rfl) ?_
        refine x_get (C := RX6) (T := TX6) (N := 32) (ci := 5) (v := .ref (a 11)) S kX6 rfl I 0 11 rfl (by decide) (by decide +kernel) rfl dX6_measure_58 ?_
        refine lv_iload_n S.1 S.2.1 dX6_measure_61 rfl (lv_at hl 3 rfl) ?_
        obtain ⟨hi87, hf⟩ := x_ldE hf
        refine x_iald (f := (G 11)) S I 9 0 rfl rfl hi87 dX6_measure_62 ?_
        exact hj63 ((G 11) ((G 5) p1.toNatClampNeg).toNatClampNeg) _ _ _ hf I (lv_sub hl [0, 1, 2, 3, 4, 5] rfl)
      · replace hf := x_ifT hf c86
        refine lv_iconst (v := 0) S.1 S.2.1 dX6_measure_53 (by decide) ?_
        refine lv_goto (tgt := 63) S.1 S.2.1 dX6_measure_54 (by decide) ?_
        exact hj63 0 _ _ _ hf I (lv_sub hl [0, 1, 2, 3, 4, 5] rfl)
    refine lv_icmp_ne (tgt := 40) S.1 S.2.1 dX6_measure_33 (by decide) (fun c88 => ?_) (fun c88 => ?_)
    · replace hf := x_ifF hf c88
      refine lv_aload_n S.1 S.2.1 dX6_measure_40 rfl (lv_at hl 3 rfl) ?_
      refine x_get (C := RX6) (T := TX6) (N := 32) (ci := 5) (v := .ref (a 10)) S kX6 rfl I 0 10 rfl (by decide) (by decide +kernel) rfl dX6_measure_41 ?_
      refine lv_iload_n S.1 S.2.1 dX6_measure_44 rfl (lv_at hl 2 rfl) ?_
      obtain ⟨hi89, hf⟩ := x_ldE hf
      refine x_iald (f := (G 10)) S I 8 0 rfl rfl hi89 dX6_measure_45 ?_
      exact hj46 ((G 10) ((G 5) p1.toNatClampNeg).toNatClampNeg) _ _ _ hf I (lv_sub hl [0, 1, 2, 3, 4] rfl)
    · replace hf := x_ifT hf c88
      refine lv_iconst (v := 0) S.1 S.2.1 dX6_measure_36 (by decide) ?_
      refine lv_goto (tgt := 46) S.1 S.2.1 dX6_measure_37 (by decide) ?_
      exact hj46 0 _ _ _ hf I (lv_sub hl [0, 1, 2, 3, 4] rfl)
  refine lv_icmp_ne (tgt := 23) S.1 S.2.1 dX6_measure_16 (by decide) (fun c90 => ?_) (fun c90 => ?_)
  · replace hf := x_ifF hf c90
    refine lv_aload_n S.1 S.2.1 dX6_measure_23 rfl (lv_at hl 2 rfl) ?_
    refine x_get (C := RX6) (T := TX6) (N := 32) (ci := 5) (v := .ref (a 9)) S kX6 rfl I 0 9 rfl (by decide) (by decide +kernel) rfl dX6_measure_24 ?_
    refine lv_iload_n S.1 S.2.1 dX6_measure_27 rfl (lv_at hl 1 rfl) ?_
    obtain ⟨hi91, hf⟩ := x_ldE hf
    refine x_iald (f := (G 9)) S I 7 0 rfl rfl hi91 dX6_measure_28 ?_
    exact hj29 ((G 9) ((G 5) p1.toNatClampNeg).toNatClampNeg) _ _ _ hf I (lv_sub hl [0, 1, 2, 3] rfl)
  · replace hf := x_ifT hf c90
    refine lv_iconst (v := 0) S.1 S.2.1 dX6_measure_19 (by decide) ?_
    refine lv_goto (tgt := 29) S.1 S.2.1 dX6_measure_20 (by decide) ?_
    exact hj29 0 _ _ _ hf I (lv_sub hl [0, 1, 2, 3] rfl)
set_option maxHeartbeats 4000000 in
set_option maxRecDepth 100000 in
theorem tX6_make (l : Launch) (D : va_G) (cI cC cZ : ClassId) (h : Nat) (a : Nat → Nat) (F : xF) (G : xG) (p1 p2 p3 p4 p5 : Int32) (res : Int32 × xF × xG) (hf : fX6_make F G p1 p2 p3 p4 p5 = some res) : xC l yX6_make wsX6_make rmX6_make D [.ref h, .int p1, .int p2, .int p3, .int p4, .int p5] (wX6 cI cC cZ h a F G) (fun t => (wX6 cI cC cZ h a t.2.1 t.2.2)) (xT cI cC cZ) (fun t => some (.int t.1)) res := by
  have kX6 : ∀ w ∈ u_ws RX6 TX6 32, w ∈ wsX6_make := by decide +kernel
  refine x_of (cc := cX6_make) (maxL := 6) (ret := (some .int)) (by decide) rfl (Nat.le_of_ble_eq_true rfl) ?_
  intro p e s m args below meth c A Q ls S I E hl
  replace hl : lv_has ls 6 [(0, .ref h), (1, .int p1), (2, .int p2), (3, .int p3), (4, .int p4), (5, .int p5)] := hl
  replace hf := (fX6_make_e _ _ _ _ _ _ _).symm.trans hf
  refine lv_aload_n S.1 S.2.1 dX6_make_0 rfl (lv_at hl 0 rfl) ?_
  refine x_get (C := RX6) (T := TX6) (N := 32) (ci := 5) (v := .ref (a 4)) S kX6 rfl I 0 4 rfl (by decide) (by decide +kernel) rfl dX6_make_1 ?_
  refine lv_aload_n S.1 S.2.1 dX6_make_4 rfl (lv_at hl 0 rfl) ?_
  refine x_get (C := RX6) (T := TX6) (N := 32) (ci := 5) (v := .int (F 3)) S kX6 rfl I 0 3 rfl (by decide) (by decide +kernel) rfl dX6_make_5 ?_
  refine lv_iload_n S.1 S.2.1 dX6_make_8 rfl (lv_at hl 1 rfl) ?_
  obtain ⟨hi1, hf⟩ := x_ldE hf
  refine x_iast (f := (G 4)) (ws' := (wX6 cI cC cZ h a F (va_up G 4 (upd (G 4) (F 3).toNatClampNeg p1)))) S I 2 0 rfl rfl hi1 rfl dX6_make_9 (fun H locs I => ?_)
  refine lv_aload_n S.1 S.2.1 dX6_make_10 rfl (lv_at hl 0 rfl) ?_
  refine x_get (C := RX6) (T := TX6) (N := 32) (ci := 5) (v := .ref (a 5)) S kX6 rfl I 0 5 rfl (by decide) (by decide +kernel) rfl dX6_make_11 ?_
  refine lv_aload_n S.1 S.2.1 dX6_make_14 rfl (lv_at hl 0 rfl) ?_
  refine x_get (C := RX6) (T := TX6) (N := 32) (ci := 5) (v := .int (F 3)) S kX6 rfl I 0 3 rfl (by decide) (by decide +kernel) rfl dX6_make_15 ?_
  refine lv_iload_n S.1 S.2.1 dX6_make_18 rfl (lv_at hl 2 rfl) ?_
  obtain ⟨hi2, hf⟩ := x_ldE hf
  refine x_iast (f := (G 5)) (ws' := (wX6 cI cC cZ h a F (va_up (va_up G 4 (upd (G 4) (F 3).toNatClampNeg p1)) 5 (upd (G 5) (F 3).toNatClampNeg p2)))) S I 3 0 rfl rfl hi2 rfl dX6_make_19 (fun H locs I => ?_)
  refine lv_aload_n S.1 S.2.1 dX6_make_20 rfl (lv_at hl 0 rfl) ?_
  refine x_get (C := RX6) (T := TX6) (N := 32) (ci := 5) (v := .ref (a 6)) S kX6 rfl I 0 6 rfl (by decide) (by decide +kernel) rfl dX6_make_21 ?_
  refine lv_aload_n S.1 S.2.1 dX6_make_24 rfl (lv_at hl 0 rfl) ?_
  refine x_get (C := RX6) (T := TX6) (N := 32) (ci := 5) (v := .int (F 3)) S kX6 rfl I 0 3 rfl (by decide) (by decide +kernel) rfl dX6_make_25 ?_
  refine lv_iload_n S.1 S.2.1 dX6_make_28 rfl (lv_at hl 3 rfl) ?_
  obtain ⟨hi3, hf⟩ := x_ldE hf
  refine x_iast (f := (G 6)) (ws' := (wX6 cI cC cZ h a F (va_up (va_up (va_up G 4 (upd (G 4) (F 3).toNatClampNeg p1)) 5 (upd (G 5) (F 3).toNatClampNeg p2)) 6 (upd (G 6) (F 3).toNatClampNeg p3)))) S I 4 0 rfl rfl hi3 rfl dX6_make_29 (fun H locs I => ?_)
  refine lv_aload_n S.1 S.2.1 dX6_make_30 rfl (lv_at hl 0 rfl) ?_
  refine x_get (C := RX6) (T := TX6) (N := 32) (ci := 5) (v := .ref (a 7)) S kX6 rfl I 0 7 rfl (by decide) (by decide +kernel) rfl dX6_make_31 ?_
  refine lv_aload_n S.1 S.2.1 dX6_make_34 rfl (lv_at hl 0 rfl) ?_
  refine x_get (C := RX6) (T := TX6) (N := 32) (ci := 5) (v := .int (F 3)) S kX6 rfl I 0 3 rfl (by decide) (by decide +kernel) rfl dX6_make_35 ?_
  refine lv_iload S.1 S.2.1 dX6_make_38 (lv_at hl 4 rfl) ?_
  obtain ⟨hi4, hf⟩ := x_ldE hf
  refine x_iast (f := (G 7)) (ws' := (wX6 cI cC cZ h a F (va_up (va_up (va_up (va_up G 4 (upd (G 4) (F 3).toNatClampNeg p1)) 5 (upd (G 5) (F 3).toNatClampNeg p2)) 6 (upd (G 6) (F 3).toNatClampNeg p3)) 7 (upd (G 7) (F 3).toNatClampNeg p4)))) S I 5 0 rfl rfl hi4 rfl dX6_make_40 (fun H locs I => ?_)
  refine lv_aload_n S.1 S.2.1 dX6_make_41 rfl (lv_at hl 0 rfl) ?_
  refine x_get (C := RX6) (T := TX6) (N := 32) (ci := 5) (v := .ref (a 8)) S kX6 rfl I 0 8 rfl (by decide) (by decide +kernel) rfl dX6_make_42 ?_
  refine lv_aload_n S.1 S.2.1 dX6_make_45 rfl (lv_at hl 0 rfl) ?_
  refine x_get (C := RX6) (T := TX6) (N := 32) (ci := 5) (v := .int (F 3)) S kX6 rfl I 0 3 rfl (by decide) (by decide +kernel) rfl dX6_make_46 ?_
  refine lv_iload S.1 S.2.1 dX6_make_49 (lv_at hl 5 rfl) ?_
  obtain ⟨hi5, hf⟩ := x_ldE hf
  refine x_iast (f := (G 8)) (ws' := (wX6 cI cC cZ h a F (va_up (va_up (va_up (va_up (va_up G 4 (upd (G 4) (F 3).toNatClampNeg p1)) 5 (upd (G 5) (F 3).toNatClampNeg p2)) 6 (upd (G 6) (F 3).toNatClampNeg p3)) 7 (upd (G 7) (F 3).toNatClampNeg p4)) 8 (upd (G 8) (F 3).toNatClampNeg p5)))) S I 6 0 rfl rfl hi5 rfl dX6_make_51 (fun H locs I => ?_)
  refine lv_aload_n S.1 S.2.1 dX6_make_52 rfl (lv_at hl 0 rfl) ?_
  refine lv_aload_n S.1 S.2.1 dX6_make_53 rfl (lv_at hl 0 rfl) ?_
  refine x_get (C := RX6) (T := TX6) (N := 32) (ci := 5) (v := .int (F 3)) S kX6 rfl I 0 3 rfl (by decide) (by decide +kernel) rfl dX6_make_54 ?_
  obtain ⟨G7, hg6, hf⟩ := x_b1E hf
  refine x_cA (As := [.int (F 3)]) (rest := []) (st' := []) (ws' := (wX6 cI cC cZ h a F G7)) S I (tX6_measure l D cI cC cZ h a F (va_up (va_up (va_up (va_up (va_up G 4 (upd (G 4) (F 3).toNatClampNeg p1)) 5 (upd (G 5) (F 3).toNatClampNeg p2)) 6 (upd (G 6) (F 3).toNatClampNeg p3)) 7 (upd (G 7) (F 3).toNatClampNeg p4)) 8 (upd (G 8) (F 3).toNatClampNeg p5)) (F 3) G7 hg6) (cwV 1 S.2.2.2.2 gX6_make_X6_measure rfl rfl rfl (by decide +kernel) ⟨Nat.le_of_ble_eq_true rfl, Nat.le_of_ble_eq_true rfl⟩) 0 5 rfl rfl rfl rfl hl rfl (Nat.le_of_ble_eq_true rfl) ⟨Nat.zero_le _, Nat.zero_le _⟩ rfl dX6_make_57 (fun H locs I => ?_)
  refine lv_aload_n S.1 S.2.1 dX6_make_60 rfl (lv_at hl 0 rfl) ?_
  refine lv_dup S.1 S.2.1 dX6_make_61 rfl ?_
  refine x_get (C := RX6) (T := TX6) (N := 32) (ci := 5) (v := .int (F 3)) S kX6 rfl I 0 3 rfl (by decide) (by decide +kernel) rfl dX6_make_62 ?_
  refine lv_iconst (v := 1) S.1 S.2.1 dX6_make_65 (by decide) ?_
  refine lv_iadd S.1 S.2.1 dX6_make_66 ?_
  refine x_put (C := RX6) (T := TX6) (N := 32) (ci := 5) (ws' := (wX6 cI cC cZ h a (va_up F 3 ((F 3) + 1)) G7)) S kX6 tyX6 tyX6_ok nmX6 rfl I 0 3 rfl (by decide) (by decide +kernel) rfl rfl (Nat.le_of_ble_eq_true rfl) rfl dX6_make_67 (fun H locs I => ?_)
  refine lv_aload_n S.1 S.2.1 dX6_make_70 rfl (lv_at hl 0 rfl) ?_
  refine x_get (C := RX6) (T := TX6) (N := 32) (ci := 5) (v := .int ((F 3) + 1)) S kX6 rfl I 0 3 rfl (by decide) (by decide +kernel) rfl dX6_make_71 ?_
  refine lv_iconst (v := 1) S.1 S.2.1 dX6_make_74 (by decide) ?_
  refine lv_isub S.1 S.2.1 dX6_make_75 ?_
  exact x_ri E rfl rfl hf rfl I rfl dX6_make_76
set_option maxHeartbeats 4000000 in
set_option maxRecDepth 100000 in
theorem tX6_begin (l : Launch) (D : va_G) (cI cC cZ : ClassId) (h : Nat) (a : Nat → Nat) (F : xF) (G : xG) (p1 p2 p3 : Int32) (res : xF × xG) (hf : fX6_begin F G p1 p2 p3 = some res) : xC l yX6_begin wsX6_begin rmX6_begin D [.ref h, .int p1, .int p2, .int p3] (wX6 cI cC cZ h a F G) (fun t => (wX6 cI cC cZ h a t.1 t.2)) (xT cI cC cZ) (fun _ => none) res := by
  have kX6 : ∀ w ∈ u_ws RX6 TX6 32, w ∈ wsX6_begin := by decide +kernel
  refine x_of (cc := cX6_begin) (maxL := 4) (ret := none) (by decide) rfl (Nat.le_of_ble_eq_true rfl) ?_
  intro p e s m args below meth c A Q ls S I E hl
  replace hl : lv_has ls 4 [(0, .ref h), (1, .int p1), (2, .int p2), (3, .int p3)] := hl
  replace hf := (fX6_begin_e _ _ _ _ _).symm.trans hf
  refine lv_aload_n S.1 S.2.1 dX6_begin_0 rfl (lv_at hl 0 rfl) ?_
  refine x_get (C := RX6) (T := TX6) (N := 32) (ci := 5) (v := .ref (a 13)) S kX6 rfl I 0 13 rfl (by decide) (by decide +kernel) rfl dX6_begin_1 ?_
  refine lv_aload_n S.1 S.2.1 dX6_begin_4 rfl (lv_at hl 0 rfl) ?_
  refine x_get (C := RX6) (T := TX6) (N := 32) (ci := 5) (v := .int (F 12)) S kX6 rfl I 0 12 rfl (by decide) (by decide +kernel) rfl dX6_begin_5 ?_
  refine lv_iload_n S.1 S.2.1 dX6_begin_8 rfl (lv_at hl 1 rfl) ?_
  obtain ⟨hi1, hf⟩ := x_ldE hf
  refine x_iast (f := (G 13)) (ws' := (wX6 cI cC cZ h a F (va_up G 13 (upd (G 13) (F 12).toNatClampNeg p1)))) S I 10 0 rfl rfl hi1 rfl dX6_begin_9 (fun H locs I => ?_)
  refine lv_aload_n S.1 S.2.1 dX6_begin_10 rfl (lv_at hl 0 rfl) ?_
  refine x_get (C := RX6) (T := TX6) (N := 32) (ci := 5) (v := .ref (a 14)) S kX6 rfl I 0 14 rfl (by decide) (by decide +kernel) rfl dX6_begin_11 ?_
  refine lv_aload_n S.1 S.2.1 dX6_begin_14 rfl (lv_at hl 0 rfl) ?_
  refine x_get (C := RX6) (T := TX6) (N := 32) (ci := 5) (v := .int (F 12)) S kX6 rfl I 0 12 rfl (by decide) (by decide +kernel) rfl dX6_begin_15 ?_
  refine lv_iload_n S.1 S.2.1 dX6_begin_18 rfl (lv_at hl 2 rfl) ?_
  obtain ⟨hi2, hf⟩ := x_ldE hf
  refine x_iast (f := (G 14)) (ws' := (wX6 cI cC cZ h a F (va_up (va_up G 13 (upd (G 13) (F 12).toNatClampNeg p1)) 14 (upd (G 14) (F 12).toNatClampNeg p2)))) S I 11 0 rfl rfl hi2 rfl dX6_begin_19 (fun H locs I => ?_)
  refine lv_aload_n S.1 S.2.1 dX6_begin_20 rfl (lv_at hl 0 rfl) ?_
  refine x_get (C := RX6) (T := TX6) (N := 32) (ci := 5) (v := .ref (a 15)) S kX6 rfl I 0 15 rfl (by decide) (by decide +kernel) rfl dX6_begin_21 ?_
  refine lv_aload_n S.1 S.2.1 dX6_begin_24 rfl (lv_at hl 0 rfl) ?_
  refine x_get (C := RX6) (T := TX6) (N := 32) (ci := 5) (v := .int (F 12)) S kX6 rfl I 0 12 rfl (by decide) (by decide +kernel) rfl dX6_begin_25 ?_
  refine lv_iload_n S.1 S.2.1 dX6_begin_28 rfl (lv_at hl 3 rfl) ?_
  obtain ⟨hi3, hf⟩ := x_ldE hf
  refine x_iast (f := (G 15)) (ws' := (wX6 cI cC cZ h a F (va_up (va_up (va_up G 13 (upd (G 13) (F 12).toNatClampNeg p1)) 14 (upd (G 14) (F 12).toNatClampNeg p2)) 15 (upd (G 15) (F 12).toNatClampNeg p3)))) S I 12 0 rfl rfl hi3 rfl dX6_begin_29 (fun H locs I => ?_)
  refine lv_aload_n S.1 S.2.1 dX6_begin_30 rfl (lv_at hl 0 rfl) ?_
  refine lv_dup S.1 S.2.1 dX6_begin_31 rfl ?_
  refine x_get (C := RX6) (T := TX6) (N := 32) (ci := 5) (v := .int (F 12)) S kX6 rfl I 0 12 rfl (by decide) (by decide +kernel) rfl dX6_begin_32 ?_
  refine lv_iconst (v := 1) S.1 S.2.1 dX6_begin_35 (by decide) ?_
  refine lv_iadd S.1 S.2.1 dX6_begin_36 ?_
  refine x_put (C := RX6) (T := TX6) (N := 32) (ci := 5) (ws' := (wX6 cI cC cZ h a (va_up F 12 ((F 12) + 1)) (va_up (va_up (va_up G 13 (upd (G 13) (F 12).toNatClampNeg p1)) 14 (upd (G 14) (F 12).toNatClampNeg p2)) 15 (upd (G 15) (F 12).toNatClampNeg p3)))) S kX6 tyX6 tyX6_ok nmX6 rfl I 0 12 rfl (by decide) (by decide +kernel) rfl rfl (Nat.le_of_ble_eq_true rfl) rfl dX6_begin_37 (fun H locs I => ?_)
  exact x_rv E rfl hf rfl I rfl dX6_begin_40
set_option maxHeartbeats 4000000 in
set_option maxRecDepth 100000 in
theorem tX6_end (l : Launch) (D : va_G) (cI cC cZ : ClassId) (h : Nat) (a : Nat → Nat) (F : xF) (G : xG) (p1 : Int32) (res : xF × xG) (hf : fX6_end F G p1 = some res) : xC l yX6_end wsX6_end rmX6_end D [.ref h, .int p1] (wX6 cI cC cZ h a F G) (fun t => (wX6 cI cC cZ h a t.1 t.2)) (xT cI cC cZ) (fun _ => none) res := by
  have kX6 : ∀ w ∈ u_ws RX6 TX6 32, w ∈ wsX6_end := by decide +kernel
  refine x_of (cc := cX6_end) (maxL := 3) (ret := none) (by decide) rfl (Nat.le_of_ble_eq_true rfl) ?_
  intro p e s m args below meth c A Q ls S I E hl
  replace hl : lv_has ls 3 [(0, .ref h), (1, .int p1)] := hl
  replace hf := (fX6_end_e _ _ _).symm.trans hf
  refine lv_iload_n S.1 S.2.1 dX6_end_0 rfl (lv_at hl 1 rfl) ?_
  refine lv_istore_n (lv' := [(2, .int p1), (0, .ref h), (1, .int p1)]) S.1 S.2.1 dX6_end_1 rfl hl (by decide) rfl (fun ls hl => ?_)
  have hx92 : ∀ (v1 : Int32) (F2 : xF) (G3 : xG) (H : Heap) (locs : List Loc) (ls : Array Slot), fX6_end_x92 v1 F2 G3 = some res → xI D A s (wX6 cI cC cZ h a F2 G3) (xT cI cC cZ) H locs → lv_has ls 3 [(2, .int v1), (0, .ref h)] → W p l e (headSpec wsX6_end rmX6_end).room s m args below meth c H locs 0 0 Q (F0 m 92 ls []) := by
    intro v1 F2 G3 H locs ls hf I hl
    replace hf := (fX6_end_x92_e _ _ _).symm.trans hf
    refine lv_aload_n S.1 S.2.1 dX6_end_92 rfl (lv_at hl 1 rfl) ?_
    refine x_get (C := RX6) (T := TX6) (N := 32) (ci := 5) (v := .int (F2 12)) S kX6 rfl I 0 12 rfl (by decide) (by decide +kernel) rfl dX6_end_93 ?_
    refine lv_if_ne (tgt := 108) S.1 S.2.1 dX6_end_96 (by decide) (fun c4 => ?_) (fun c4 => ?_)
    · replace hf := x_ifF hf c4
      refine lv_aload_n S.1 S.2.1 dX6_end_108 rfl (lv_at hl 1 rfl) ?_
      refine x_get (C := RX6) (T := TX6) (N := 32) (ci := 5) (v := .ref (a 13)) S kX6 rfl I 0 13 rfl (by decide) (by decide +kernel) rfl dX6_end_109 ?_
      refine lv_aload_n S.1 S.2.1 dX6_end_112 rfl (lv_at hl 1 rfl) ?_
      refine x_get (C := RX6) (T := TX6) (N := 32) (ci := 5) (v := .int (F2 12)) S kX6 rfl I 0 12 rfl (by decide) (by decide +kernel) rfl dX6_end_113 ?_
      refine lv_iconst (v := 1) S.1 S.2.1 dX6_end_116 (by decide) ?_
      refine lv_isub S.1 S.2.1 dX6_end_117 ?_
      obtain ⟨hi5, hf⟩ := x_ldE hf
      refine x_iald (f := (G3 13)) S I 10 0 rfl rfl hi5 dX6_end_118 ?_
      refine lv_bipush (v := 10) S.1 S.2.1 dX6_end_119 (by decide) ?_
      refine lv_icmp_ne (tgt := 145) S.1 S.2.1 dX6_end_121 (by decide) (fun c6 => ?_) (fun c6 => ?_)
      · replace hf := x_ifF hf c6
        refine lv_aload_n S.1 S.2.1 dX6_end_145 rfl (lv_at hl 1 rfl) ?_
        refine x_get (C := RX6) (T := TX6) (N := 32) (ci := 5) (v := .ref (a 15)) S kX6 rfl I 0 15 rfl (by decide) (by decide +kernel) rfl dX6_end_146 ?_
        refine lv_aload_n S.1 S.2.1 dX6_end_149 rfl (lv_at hl 1 rfl) ?_
        refine x_get (C := RX6) (T := TX6) (N := 32) (ci := 5) (v := .int (F2 12)) S kX6 rfl I 0 12 rfl (by decide) (by decide +kernel) rfl dX6_end_150 ?_
        refine lv_iconst (v := 1) S.1 S.2.1 dX6_end_153 (by decide) ?_
        refine lv_isub S.1 S.2.1 dX6_end_154 ?_
        refine lv_iload_n S.1 S.2.1 dX6_end_155 rfl (lv_at hl 0 rfl) ?_
        obtain ⟨hi7, hf⟩ := x_ldE hf
        refine x_iast (f := (G3 15)) (ws' := (wX6 cI cC cZ h a F2 (va_up G3 15 (upd (G3 15) ((F2 12) - 1).toNatClampNeg v1)))) S I 12 0 rfl rfl hi7 rfl dX6_end_156 (fun H locs I => ?_)
        refine lv_aload_n S.1 S.2.1 dX6_end_157 rfl (lv_at hl 1 rfl) ?_
        refine lv_bipush (v := 7) S.1 S.2.1 dX6_end_158 (by decide) ?_
        refine x_put (C := RX6) (T := TX6) (N := 32) (ci := 5) (ws' := (wX6 cI cC cZ h a (va_up F2 16 7) (va_up G3 15 (upd (G3 15) ((F2 12) - 1).toNatClampNeg v1)))) S kX6 tyX6 tyX6_ok nmX6 rfl I 0 16 rfl (by decide) (by decide +kernel) rfl rfl (Nat.le_of_ble_eq_true rfl) rfl dX6_end_160 (fun H locs I => ?_)
        exact x_rv E rfl hf rfl I rfl dX6_end_163
      · replace hf := x_ifT hf c6
        refine lv_aload_n S.1 S.2.1 dX6_end_124 rfl (lv_at hl 1 rfl) ?_
        refine x_get (C := RX6) (T := TX6) (N := 32) (ci := 5) (v := .ref (a 14)) S kX6 rfl I 0 14 rfl (by decide) (by decide +kernel) rfl dX6_end_125 ?_
        refine lv_aload_n S.1 S.2.1 dX6_end_128 rfl (lv_at hl 1 rfl) ?_
        refine x_get (C := RX6) (T := TX6) (N := 32) (ci := 5) (v := .int (F2 12)) S kX6 rfl I 0 12 rfl (by decide) (by decide +kernel) rfl dX6_end_129 ?_
        refine lv_iconst (v := 1) S.1 S.2.1 dX6_end_132 (by decide) ?_
        refine lv_isub S.1 S.2.1 dX6_end_133 ?_
        refine lv_iload_n S.1 S.2.1 dX6_end_134 rfl (lv_at hl 0 rfl) ?_
        obtain ⟨hi8, hf⟩ := x_ldE hf
        refine x_iast (f := (G3 14)) (ws' := (wX6 cI cC cZ h a F2 (va_up G3 14 (upd (G3 14) ((F2 12) - 1).toNatClampNeg v1)))) S I 11 0 rfl rfl hi8 rfl dX6_end_135 (fun H locs I => ?_)
        refine lv_aload_n S.1 S.2.1 dX6_end_136 rfl (lv_at hl 1 rfl) ?_
        refine lv_bipush (v := 6) S.1 S.2.1 dX6_end_137 (by decide) ?_
        refine x_put (C := RX6) (T := TX6) (N := 32) (ci := 5) (ws' := (wX6 cI cC cZ h a (va_up F2 16 6) (va_up G3 14 (upd (G3 14) ((F2 12) - 1).toNatClampNeg v1)))) S kX6 tyX6 tyX6_ok nmX6 rfl I 0 16 rfl (by decide) (by decide +kernel) rfl rfl (Nat.le_of_ble_eq_true rfl) rfl dX6_end_139 (fun H locs I => ?_)
        refine lv_goto (tgt := 163) S.1 S.2.1 dX6_end_142 (by decide) ?_
        exact x_rv E rfl hf rfl I rfl dX6_end_163
    · replace hf := x_ifT hf c4
      refine lv_aload_n S.1 S.2.1 dX6_end_99 rfl (lv_at hl 1 rfl) ?_
      refine lv_bipush (v := 8) S.1 S.2.1 dX6_end_100 (by decide) ?_
      refine x_put (C := RX6) (T := TX6) (N := 32) (ci := 5) (ws' := (wX6 cI cC cZ h a (va_up F2 16 8) G3)) S kX6 tyX6 tyX6_ok nmX6 rfl I 0 16 rfl (by decide) (by decide +kernel) rfl rfl (Nat.le_of_ble_eq_true rfl) rfl dX6_end_102 (fun H locs I => ?_)
      refine lv_goto (tgt := 163) S.1 S.2.1 dX6_end_105 (by decide) ?_
      exact x_rv E rfl hf rfl I rfl dX6_end_163
  have hl2 : ∀ (n2 : Nat), ∀ (v9 : Int32) (F10 : xF) (G11 : xG) (H : Heap) (locs : List Loc) (ls : Array Slot), (fX6_end_l2 n2) v9 F10 G11 = some res → xI D A s (wX6 cI cC cZ h a F10 G11) (xT cI cC cZ) H locs → lv_has ls 3 [(2, .int v9), (0, .ref h)] → W p l e (headSpec wsX6_end rmX6_end).room s m args below meth c H locs 0 0 Q (F0 m 2 ls []) := by
    intro n2
    induction n2 with
    | zero =>
      intro v9 F10 G11 H locs ls hf I hl
      cases (fX6_end_l2_z _ _ _).symm.trans hf
    | succ n2 ih2 =>
      intro v9 F10 G11 H locs ls hf I hl
      replace hf := (fX6_end_l2_e _ _ _ _).symm.trans hf
      refine lv_aload_n S.1 S.2.1 dX6_end_2 rfl (lv_at hl 1 rfl) ?_
      refine x_get (C := RX6) (T := TX6) (N := 32) (ci := 5) (v := .int (F10 12)) S kX6 rfl I 0 12 rfl (by decide) (by decide +kernel) rfl dX6_end_3 ?_
      refine lv_if_le (tgt := 92) S.1 S.2.1 dX6_end_6 (by decide) (fun c12 => ?_) (fun c12 => ?_)
      · replace hf := x_ifT hf c12
        exact hx92 v9 F10 G11 _ _ _ hf I (lv_sub hl [0, 1] rfl)
      · replace hf := x_ifF hf c12
        refine lv_aload_n S.1 S.2.1 dX6_end_9 rfl (lv_at hl 1 rfl) ?_
        refine x_get (C := RX6) (T := TX6) (N := 32) (ci := 5) (v := .ref (a 13)) S kX6 rfl I 0 13 rfl (by decide) (by decide +kernel) rfl dX6_end_10 ?_
        refine lv_aload_n S.1 S.2.1 dX6_end_13 rfl (lv_at hl 1 rfl) ?_
        refine x_get (C := RX6) (T := TX6) (N := 32) (ci := 5) (v := .int (F10 12)) S kX6 rfl I 0 12 rfl (by decide) (by decide +kernel) rfl dX6_end_14 ?_
        refine lv_iconst (v := 1) S.1 S.2.1 dX6_end_17 (by decide) ?_
        refine lv_isub S.1 S.2.1 dX6_end_18 ?_
        obtain ⟨hi13, hf⟩ := x_ldE hf
        refine x_iald (f := (G11 13)) S I 10 0 rfl rfl hi13 dX6_end_19 ?_
        refine lv_iconst (v := 2) S.1 S.2.1 dX6_end_20 (by decide) ?_
        have hj45 : ∀  (H : Heap) (locs : List Loc) (ls : Array Slot), (fX6_end_j45 (fX6_end_l2 n2) F10 G11 v9) = some res → xI D A s (wX6 cI cC cZ h a F10 G11) (xT cI cC cZ) H locs → lv_has ls 3 [(2, .int v9), (0, .ref h)] → W p l e (headSpec wsX6_end rmX6_end).room s m args below meth c H locs 0 0 Q (F0 m 45 ls []) := by
          intro  H locs ls hf I hl
          replace hf := (fX6_end_j45_e _ _ _ _).symm.trans hf
          refine lv_aload_n S.1 S.2.1 dX6_end_45 rfl (lv_at hl 1 rfl) ?_
          refine lv_dup S.1 S.2.1 dX6_end_46 rfl ?_
          refine x_get (C := RX6) (T := TX6) (N := 32) (ci := 5) (v := .int (F10 12)) S kX6 rfl I 0 12 rfl (by decide) (by decide +kernel) rfl dX6_end_47 ?_
          refine lv_iconst (v := 1) S.1 S.2.1 dX6_end_50 (by decide) ?_
          refine lv_isub S.1 S.2.1 dX6_end_51 ?_
          refine x_put (C := RX6) (T := TX6) (N := 32) (ci := 5) (ws' := (wX6 cI cC cZ h a (va_up F10 12 ((F10 12) - 1)) G11)) S kX6 tyX6 tyX6_ok nmX6 rfl I 0 12 rfl (by decide) (by decide +kernel) rfl rfl (Nat.le_of_ble_eq_true rfl) rfl dX6_end_52 (fun H locs I => ?_)
          refine lv_aload_n S.1 S.2.1 dX6_end_55 rfl (lv_at hl 1 rfl) ?_
          refine lv_aload_n S.1 S.2.1 dX6_end_56 rfl (lv_at hl 1 rfl) ?_
          refine x_get (C := RX6) (T := TX6) (N := 32) (ci := 5) (v := .ref (a 13)) S kX6 rfl I 0 13 rfl (by decide) (by decide +kernel) rfl dX6_end_57 ?_
          refine lv_aload_n S.1 S.2.1 dX6_end_60 rfl (lv_at hl 1 rfl) ?_
          refine x_get (C := RX6) (T := TX6) (N := 32) (ci := 5) (v := .int ((F10 12) - 1)) S kX6 rfl I 0 12 rfl (by decide) (by decide +kernel) rfl dX6_end_61 ?_
          obtain ⟨hi14, hf⟩ := x_ldE hf
          refine x_iald (f := (G11 13)) S I 10 0 rfl rfl hi14 dX6_end_64 ?_
          refine lv_iload_n S.1 S.2.1 dX6_end_65 rfl (lv_at hl 0 rfl) ?_
          refine lv_iconst (v := (-1)) S.1 S.2.1 dX6_end_66 (by decide) ?_
          refine lv_aload_n S.1 S.2.1 dX6_end_67 rfl (lv_at hl 1 rfl) ?_
          refine x_get (C := RX6) (T := TX6) (N := 32) (ci := 5) (v := .ref (a 14)) S kX6 rfl I 0 14 rfl (by decide) (by decide +kernel) rfl dX6_end_68 ?_
          refine lv_aload_n S.1 S.2.1 dX6_end_71 rfl (lv_at hl 1 rfl) ?_
          refine x_get (C := RX6) (T := TX6) (N := 32) (ci := 5) (v := .int ((F10 12) - 1)) S kX6 rfl I 0 12 rfl (by decide) (by decide +kernel) rfl dX6_end_72 ?_
          obtain ⟨hi15, hf⟩ := x_ldE hf
          refine x_iald (f := (G11 14)) S I 11 0 rfl rfl hi15 dX6_end_75 ?_
          refine lv_aload_n S.1 S.2.1 dX6_end_76 rfl (lv_at hl 1 rfl) ?_
          refine x_get (C := RX6) (T := TX6) (N := 32) (ci := 5) (v := .ref (a 15)) S kX6 rfl I 0 15 rfl (by decide) (by decide +kernel) rfl dX6_end_77 ?_
          refine lv_aload_n S.1 S.2.1 dX6_end_80 rfl (lv_at hl 1 rfl) ?_
          refine x_get (C := RX6) (T := TX6) (N := 32) (ci := 5) (v := .int ((F10 12) - 1)) S kX6 rfl I 0 12 rfl (by decide) (by decide +kernel) rfl dX6_end_81 ?_
          obtain ⟨hi16, hf⟩ := x_ldE hf
          refine x_iald (f := (G11 15)) S I 12 0 rfl rfl hi16 dX6_end_84 ?_
          obtain ⟨r18, F19, G20, hg17, hf⟩ := x_b3E hf
          refine x_cA (As := [.int ((G11 13) ((F10 12) - 1).toNatClampNeg), .int v9, .int (-1), .int ((G11 14) ((F10 12) - 1).toNatClampNeg), .int ((G11 15) ((F10 12) - 1).toNatClampNeg)]) (rest := []) (st' := [.int r18]) (ws' := (wX6 cI cC cZ h a F19 G20)) S I (tX6_make l D cI cC cZ h a (va_up F10 12 ((F10 12) - 1)) G11 ((G11 13) ((F10 12) - 1).toNatClampNeg) v9 (-1) ((G11 14) ((F10 12) - 1).toNatClampNeg) ((G11 15) ((F10 12) - 1).toNatClampNeg) (r18, F19, G20) hg17) (cwV 5 S.2.2.2.2 gX6_end_X6_make rfl rfl rfl (by decide +kernel) ⟨Nat.le_of_ble_eq_true rfl, Nat.le_of_ble_eq_true rfl⟩) 0 5 rfl rfl rfl rfl hl rfl (Nat.le_of_ble_eq_true rfl) ⟨Nat.zero_le _, Nat.zero_le _⟩ rfl dX6_end_85 (fun H locs I => ?_)
          refine lv_istore_n (lv' := [(2, .int r18), (0, .ref h)]) S.1 S.2.1 dX6_end_88 rfl hl (by decide) rfl (fun ls hl => ?_)
          refine lv_goto (tgt := 2) S.1 S.2.1 dX6_end_89 (by decide) ?_
          exact ih2 r18 F19 G20 _ _ _ hf I (lv_sub hl [0, 1] rfl)
        refine lv_icmp_eq (tgt := 45) S.1 S.2.1 dX6_end_21 (by decide) (fun c21 => ?_) (fun c21 => ?_)
        · replace hf := x_ifT hf c21
          exact hj45 _ _ _ hf I (lv_sub hl [0, 1] rfl)
        · replace hf := x_ifF hf c21
          refine lv_aload_n S.1 S.2.1 dX6_end_24 rfl (lv_at hl 1 rfl) ?_
          refine x_get (C := RX6) (T := TX6) (N := 32) (ci := 5) (v := .ref (a 13)) S kX6 rfl I 0 13 rfl (by decide) (by decide +kernel) rfl dX6_end_25 ?_
          refine lv_aload_n S.1 S.2.1 dX6_end_28 rfl (lv_at hl 1 rfl) ?_
          refine x_get (C := RX6) (T := TX6) (N := 32) (ci := 5) (v := .int (F10 12)) S kX6 rfl I 0 12 rfl (by decide) (by decide +kernel) rfl dX6_end_29 ?_
          refine lv_iconst (v := 1) S.1 S.2.1 dX6_end_32 (by decide) ?_
          refine lv_isub S.1 S.2.1 dX6_end_33 ?_
          obtain ⟨hi22, hf⟩ := x_ldE hf
          refine x_iald (f := (G11 13)) S I 10 0 rfl rfl hi22 dX6_end_34 ?_
          refine lv_bipush (v := 6) S.1 S.2.1 dX6_end_35 (by decide) ?_
          refine lv_bipush (v := 9) S.1 S.2.1 dX6_end_37 (by decide) ?_
          obtain ⟨r24, hg23, hf⟩ := x_b1E hf
          refine x_c0 (As := [.int ((G11 13) ((F10 12) - 1).toNatClampNeg), .int 6, .int 9]) (rest := []) (st' := [.int r24]) S I rfl (tX6_in l D cI cC cZ ((G11 13) ((F10 12) - 1).toNatClampNeg) 6 9 r24 hg23) (va_cwS 3 S.2.2.2.2 gX6_end_X6_in rfl rfl rfl (by decide +kernel) ⟨Nat.le_of_ble_eq_true rfl, Nat.le_of_ble_eq_true rfl⟩) hl rfl (Nat.le_of_ble_eq_true rfl) ⟨Nat.zero_le _, Nat.zero_le _⟩ rfl dX6_end_39 (fun H locs I => ?_)
          refine lv_if_eq (tgt := 92) S.1 S.2.1 dX6_end_42 (by decide) (fun c25 => ?_) (fun c25 => ?_)
          · replace hf := x_ifT hf c25
            exact hx92 v9 F10 G11 _ _ _ hf I (lv_sub hl [0, 1] rfl)
          · replace hf := x_ifF hf c25
            exact hj45 _ _ _ hf I (lv_sub hl [0, 1] rfl)
  exact hl2 4096 p1 F G _ _ _ hf I (lv_sub hl [0, 1] rfl)
set_option maxHeartbeats 4000000 in
set_option maxRecDepth 100000 in
theorem tX6_startsWith (l : Launch) (D : va_G) (cI cC cZ : ClassId) (h : Nat) (a : Nat → Nat) (F : xF) (G : xG) (p1 : Int32) (res : Int32 × xF × xG) (hf : fX6_startsWith F G p1 = some res) : xC l yX6_startsWith wsX6_startsWith rmX6_startsWith D [.ref h, .int p1] (wX6 cI cC cZ h a F G) (fun t => (wX6 cI cC cZ h a t.2.1 t.2.2)) (xT cI cC cZ) (fun t => some (.int t.1)) res := by
  have kX6 : ∀ w ∈ u_ws RX6 TX6 32, w ∈ wsX6_startsWith := by decide +kernel
  refine x_of (cc := cX6_startsWith) (maxL := 3) (ret := (some .boolean)) (by decide) rfl (Nat.le_of_ble_eq_true rfl) ?_
  intro p e s m args below meth c A Q ls S I E hl
  replace hl : lv_has ls 3 [(0, .ref h), (1, .int p1)] := hl
  replace hf := (fX6_startsWith_e _ _ _).symm.trans hf
  refine lv_iload_n S.1 S.2.1 dX6_startsWith_0 rfl (lv_at hl 1 rfl) ?_
  obtain ⟨r2, hg1, hf⟩ := x_b1E hf
  refine x_c0 (As := [.int p1]) (rest := []) (st' := [.int r2]) S I rfl (tX6_kindOf l D cI cC cZ p1 r2 hg1) (va_cwS 1 S.2.2.2.2 gX6_startsWith_X6_kindOf rfl rfl rfl (by decide +kernel) ⟨Nat.le_of_ble_eq_true rfl, Nat.le_of_ble_eq_true rfl⟩) hl rfl (Nat.le_of_ble_eq_true rfl) ⟨Nat.zero_le _, Nat.zero_le _⟩ rfl dX6_startsWith_1 (fun H locs I => ?_)
  refine lv_istore_n (lv' := [(2, .int r2), (0, .ref h), (1, .int p1)]) S.1 S.2.1 dX6_startsWith_4 rfl hl (by decide) rfl (fun ls hl => ?_)
  refine lv_iload_n S.1 S.2.1 dX6_startsWith_5 rfl (lv_at hl 2 rfl) ?_
  obtain ⟨r4, hg3, hf⟩ := x_b1E hf
  refine x_c0 (As := [.int p1]) (rest := []) (st' := [.int r4]) S I rfl (tX6_variableOf l D cI cC cZ p1 r4 hg3) (va_cwS 1 S.2.2.2.2 gX6_startsWith_X6_variableOf rfl rfl rfl (by decide +kernel) ⟨Nat.le_of_ble_eq_true rfl, Nat.le_of_ble_eq_true rfl⟩) hl rfl (Nat.le_of_ble_eq_true rfl) ⟨Nat.zero_le _, Nat.zero_le _⟩ rfl dX6_startsWith_6 (fun H locs I => ?_)
  refine lv_iconst (v := (-1)) S.1 S.2.1 dX6_startsWith_9 (by decide) ?_
  refine lv_icmp_eq (tgt := 31) S.1 S.2.1 dX6_startsWith_10 (by decide) (fun c5 => ?_) (fun c5 => ?_)
  · replace hf := x_ifT hf c5
    refine lv_iload_n S.1 S.2.1 dX6_startsWith_31 rfl (lv_at hl 0 rfl) ?_
    refine lv_iconst (v := 2) S.1 S.2.1 dX6_startsWith_32 (by decide) ?_
    have hj42 : ∀  (H : Heap) (locs : List Loc) (ls : Array Slot), (fX6_startsWith_j42 F G r2) = some res → xI D A s (wX6 cI cC cZ h a F G) (xT cI cC cZ) H locs → lv_has ls 3 [(2, .int r2), (0, .ref h)] → W p l e (headSpec wsX6_startsWith rmX6_startsWith).room s m args below meth c H locs 0 0 Q (F0 m 42 ls []) := by
      intro  H locs ls hf I hl
      replace hf := (fX6_startsWith_j42_e _ _ _).symm.trans hf
      refine lv_aload_n S.1 S.2.1 dX6_startsWith_42 rfl (lv_at hl 1 rfl) ?_
      refine lv_iload_n S.1 S.2.1 dX6_startsWith_43 rfl (lv_at hl 0 rfl) ?_
      refine lv_iconst (v := (-1)) S.1 S.2.1 dX6_startsWith_44 (by decide) ?_
      refine lv_iconst (v := (-1)) S.1 S.2.1 dX6_startsWith_45 (by decide) ?_
      obtain ⟨F7, G8, hg6, hf⟩ := x_b2E hf
      refine x_cA (As := [.int r2, .int (-1), .int (-1)]) (rest := []) (st' := []) (ws' := (wX6 cI cC cZ h a F7 G8)) S I (tX6_begin l D cI cC cZ h a F G r2 (-1) (-1) (F7, G8) hg6) (cwV 3 S.2.2.2.2 gX6_startsWith_X6_begin rfl rfl rfl (by decide +kernel) ⟨Nat.le_of_ble_eq_true rfl, Nat.le_of_ble_eq_true rfl⟩) 0 5 rfl rfl rfl rfl hl rfl (Nat.le_of_ble_eq_true rfl) ⟨Nat.zero_le _, Nat.zero_le _⟩ rfl dX6_startsWith_46 (fun H locs I => ?_)
      refine lv_goto (tgt := 90) S.1 S.2.1 dX6_startsWith_49 (by decide) ?_
      refine lv_iconst (v := 1) S.1 S.2.1 dX6_startsWith_90 (by decide) ?_
      exact x_ri E rfl x_n1 hf rfl I rfl dX6_startsWith_91
    refine lv_icmp_eq (tgt := 42) S.1 S.2.1 dX6_startsWith_33 (by decide) (fun c9 => ?_) (fun c9 => ?_)
    · replace hf := x_ifT hf c9
      exact hj42 _ _ _ hf I (lv_sub hl [0, 1] rfl)
    · replace hf := x_ifF hf c9
      refine lv_iload_n S.1 S.2.1 dX6_startsWith_36 rfl (lv_at hl 0 rfl) ?_
      refine lv_bipush (v := 10) S.1 S.2.1 dX6_startsWith_37 (by decide) ?_
      refine lv_icmp_ne (tgt := 52) S.1 S.2.1 dX6_startsWith_39 (by decide) (fun c10 => ?_) (fun c10 => ?_)
      · replace hf := x_ifF hf c10
        refine lv_iload_n S.1 S.2.1 dX6_startsWith_52 rfl (lv_at hl 0 rfl) ?_
        refine lv_bipush (v := 6) S.1 S.2.1 dX6_startsWith_53 (by decide) ?_
        refine lv_bipush (v := 9) S.1 S.2.1 dX6_startsWith_55 (by decide) ?_
        obtain ⟨r12, hg11, hf⟩ := x_b1E hf
        refine x_c0 (As := [.int r2, .int 6, .int 9]) (rest := []) (st' := [.int r12]) S I rfl (tX6_in l D cI cC cZ r2 6 9 r12 hg11) (va_cwS 3 S.2.2.2.2 gX6_startsWith_X6_in rfl rfl rfl (by decide +kernel) ⟨Nat.le_of_ble_eq_true rfl, Nat.le_of_ble_eq_true rfl⟩) hl rfl (Nat.le_of_ble_eq_true rfl) ⟨Nat.zero_le _, Nat.zero_le _⟩ rfl dX6_startsWith_57 (fun H locs I => ?_)
        refine lv_if_eq (tgt := 88) S.1 S.2.1 dX6_startsWith_60 (by decide) (fun c13 => ?_) (fun c13 => ?_)
        · replace hf := x_ifT hf c13
          refine lv_iconst (v := 0) S.1 S.2.1 dX6_startsWith_88 (by decide) ?_
          exact x_ri E rfl x_n0 hf rfl I rfl dX6_startsWith_89
        · replace hf := x_ifF hf c13
          refine lv_aload_n S.1 S.2.1 dX6_startsWith_63 rfl (lv_at hl 1 rfl) ?_
          refine lv_iload_n S.1 S.2.1 dX6_startsWith_64 rfl (lv_at hl 0 rfl) ?_
          refine lv_iconst (v := (-1)) S.1 S.2.1 dX6_startsWith_65 (by decide) ?_
          refine lv_iconst (v := (-1)) S.1 S.2.1 dX6_startsWith_66 (by decide) ?_
          obtain ⟨F15, G16, hg14, hf⟩ := x_b2E hf
          refine x_cA (As := [.int r2, .int (-1), .int (-1)]) (rest := []) (st' := []) (ws' := (wX6 cI cC cZ h a F15 G16)) S I (tX6_begin l D cI cC cZ h a F G r2 (-1) (-1) (F15, G16) hg14) (cwV 3 S.2.2.2.2 gX6_startsWith_X6_begin rfl rfl rfl (by decide +kernel) ⟨Nat.le_of_ble_eq_true rfl, Nat.le_of_ble_eq_true rfl⟩) 0 5 rfl rfl rfl rfl hl rfl (Nat.le_of_ble_eq_true rfl) ⟨Nat.zero_le _, Nat.zero_le _⟩ rfl dX6_startsWith_67 (fun H locs I => ?_)
          refine lv_aload_n S.1 S.2.1 dX6_startsWith_70 rfl (lv_at hl 1 rfl) ?_
          refine lv_iload_n S.1 S.2.1 dX6_startsWith_71 rfl (lv_at hl 0 rfl) ?_
          refine lv_bipush (v := 8) S.1 S.2.1 dX6_startsWith_72 (by decide) ?_
          refine lv_icmp_ge (tgt := 81) S.1 S.2.1 dX6_startsWith_74 (by decide) (fun c17 => ?_) (fun c17 => ?_)
          · replace hf := x_ifT hf c17
            refine lv_iconst (v := 4) S.1 S.2.1 dX6_startsWith_81 (by decide) ?_
            refine x_put (C := RX6) (T := TX6) (N := 32) (ci := 5) (ws' := (wX6 cI cC cZ h a (va_up F15 16 4) G16)) S kX6 tyX6 tyX6_ok nmX6 rfl I 0 16 rfl (by decide) (by decide +kernel) rfl rfl (Nat.le_of_ble_eq_true rfl) rfl dX6_startsWith_82 (fun H locs I => ?_)
            refine lv_goto (tgt := 90) S.1 S.2.1 dX6_startsWith_85 (by decide) ?_
            refine lv_iconst (v := 1) S.1 S.2.1 dX6_startsWith_90 (by decide) ?_
            exact x_ri E rfl x_n1 hf rfl I rfl dX6_startsWith_91
          · replace hf := x_ifF hf c17
            refine lv_iconst (v := 3) S.1 S.2.1 dX6_startsWith_77 (by decide) ?_
            refine lv_goto (tgt := 82) S.1 S.2.1 dX6_startsWith_78 (by decide) ?_
            refine x_put (C := RX6) (T := TX6) (N := 32) (ci := 5) (ws' := (wX6 cI cC cZ h a (va_up F15 16 3) G16)) S kX6 tyX6 tyX6_ok nmX6 rfl I 0 16 rfl (by decide) (by decide +kernel) rfl rfl (Nat.le_of_ble_eq_true rfl) rfl dX6_startsWith_82 (fun H locs I => ?_)
            refine lv_goto (tgt := 90) S.1 S.2.1 dX6_startsWith_85 (by decide) ?_
            refine lv_iconst (v := 1) S.1 S.2.1 dX6_startsWith_90 (by decide) ?_
            exact x_ri E rfl x_n1 hf rfl I rfl dX6_startsWith_91
      · replace hf := x_ifT hf c10
        exact hj42 _ _ _ hf I (lv_sub hl [0, 1] rfl)
  · replace hf := x_ifF hf c5
    refine lv_aload_n S.1 S.2.1 dX6_startsWith_13 rfl (lv_at hl 1 rfl) ?_
    refine lv_iconst (v := 0) S.1 S.2.1 dX6_startsWith_14 (by decide) ?_
    refine lv_iload_n S.1 S.2.1 dX6_startsWith_15 rfl (lv_at hl 2 rfl) ?_
    obtain ⟨r19, hg18, hf⟩ := x_b1E hf
    refine x_c0 (As := [.int p1]) (rest := [.int 0, .ref h]) (st' := [.int r19, .int 0, .ref h]) S I rfl (tX6_variableOf l D cI cC cZ p1 r19 hg18) (va_cwS 1 S.2.2.2.2 gX6_startsWith_X6_variableOf rfl rfl rfl (by decide +kernel) ⟨Nat.le_of_ble_eq_true rfl, Nat.le_of_ble_eq_true rfl⟩) hl rfl (Nat.le_of_ble_eq_true rfl) ⟨Nat.zero_le _, Nat.zero_le _⟩ rfl dX6_startsWith_16 (fun H locs I => ?_)
    refine lv_iconst (v := (-1)) S.1 S.2.1 dX6_startsWith_19 (by decide) ?_
    obtain ⟨F21, G22, hg20, hf⟩ := x_b2E hf
    refine x_cA (As := [.int 0, .int r19, .int (-1)]) (rest := []) (st' := []) (ws' := (wX6 cI cC cZ h a F21 G22)) S I (tX6_begin l D cI cC cZ h a F G 0 r19 (-1) (F21, G22) hg20) (cwV 3 S.2.2.2.2 gX6_startsWith_X6_begin rfl rfl rfl (by decide +kernel) ⟨Nat.le_of_ble_eq_true rfl, Nat.le_of_ble_eq_true rfl⟩) 0 5 rfl rfl rfl rfl hl rfl (Nat.le_of_ble_eq_true rfl) ⟨Nat.zero_le _, Nat.zero_le _⟩ rfl dX6_startsWith_20 (fun H locs I => ?_)
    refine lv_aload_n S.1 S.2.1 dX6_startsWith_23 rfl (lv_at hl 1 rfl) ?_
    refine lv_iconst (v := 1) S.1 S.2.1 dX6_startsWith_24 (by decide) ?_
    refine x_put (C := RX6) (T := TX6) (N := 32) (ci := 5) (ws' := (wX6 cI cC cZ h a (va_up F21 16 1) G22)) S kX6 tyX6 tyX6_ok nmX6 rfl I 0 16 rfl (by decide) (by decide +kernel) rfl rfl (Nat.le_of_ble_eq_true rfl) rfl dX6_startsWith_25 (fun H locs I => ?_)
    refine lv_goto (tgt := 90) S.1 S.2.1 dX6_startsWith_28 (by decide) ?_
    refine lv_iconst (v := 1) S.1 S.2.1 dX6_startsWith_90 (by decide) ?_
    exact x_ri E rfl x_n1 hf rfl I rfl dX6_startsWith_91
set_option maxHeartbeats 4000000 in
set_option maxRecDepth 100000 in
theorem tX6_names (l : Launch) (D : va_G) (cI cC cZ : ClassId) (h : Nat) (a : Nat → Nat) (F : xF) (G : xG) (p1 : Int32) (res : Int32 × xF × xG) (hf : fX6_names F G p1 = some res) : xC l yX6_names wsX6_names rmX6_names D [.ref h, .int p1] (wX6 cI cC cZ h a F G) (fun t => (wX6 cI cC cZ h a t.2.1 t.2.2)) (xT cI cC cZ) (fun t => some (.int t.1)) res := by
  have kX6 : ∀ w ∈ u_ws RX6 TX6 32, w ∈ wsX6_names := by decide +kernel
  refine x_of (cc := cX6_names) (maxL := 3) (ret := (some .boolean)) (by decide) rfl (Nat.le_of_ble_eq_true rfl) ?_
  intro p e s m args below meth c A Q ls S I E hl
  replace hl : lv_has ls 3 [(0, .ref h), (1, .int p1)] := hl
  replace hf := (fX6_names_e _ _ _).symm.trans hf
  refine lv_iload_n S.1 S.2.1 dX6_names_0 rfl (lv_at hl 1 rfl) ?_
  obtain ⟨r2, hg1, hf⟩ := x_b1E hf
  refine x_c0 (As := [.int p1]) (rest := []) (st' := [.int r2]) S I rfl (tX6_variableOf l D cI cC cZ p1 r2 hg1) (va_cwS 1 S.2.2.2.2 gX6_names_X6_variableOf rfl rfl rfl (by decide +kernel) ⟨Nat.le_of_ble_eq_true rfl, Nat.le_of_ble_eq_true rfl⟩) hl rfl (Nat.le_of_ble_eq_true rfl) ⟨Nat.zero_le _, Nat.zero_le _⟩ rfl dX6_names_1 (fun H locs I => ?_)
  refine lv_istore_n (lv' := [(2, .int r2), (0, .ref h), (1, .int p1)]) S.1 S.2.1 dX6_names_4 rfl hl (by decide) rfl (fun ls hl => ?_)
  refine lv_iload_n S.1 S.2.1 dX6_names_5 rfl (lv_at hl 0 rfl) ?_
  refine lv_iconst (v := (-1)) S.1 S.2.1 dX6_names_6 (by decide) ?_
  refine lv_icmp_ne (tgt := 12) S.1 S.2.1 dX6_names_7 (by decide) (fun c3 => ?_) (fun c3 => ?_)
  · replace hf := x_ifF hf c3
    refine lv_aload_n S.1 S.2.1 dX6_names_12 rfl (lv_at hl 1 rfl) ?_
    refine x_get (C := RX6) (T := TX6) (N := 32) (ci := 5) (v := .int (F 16)) S kX6 rfl I 0 16 rfl (by decide) (by decide +kernel) rfl dX6_names_13 ?_
    refine lv_iconst (v := 2) S.1 S.2.1 dX6_names_16 (by decide) ?_
    refine lv_icmp_ne (tgt := 62) S.1 S.2.1 dX6_names_17 (by decide) (fun c4 => ?_) (fun c4 => ?_)
    · replace hf := x_ifF hf c4
      refine lv_aload_n S.1 S.2.1 dX6_names_62 rfl (lv_at hl 1 rfl) ?_
      refine x_get (C := RX6) (T := TX6) (N := 32) (ci := 5) (v := .int (F 16)) S kX6 rfl I 0 16 rfl (by decide) (by decide +kernel) rfl dX6_names_63 ?_
      refine lv_iconst (v := 5) S.1 S.2.1 dX6_names_66 (by decide) ?_
      refine lv_icmp_ne (tgt := 90) S.1 S.2.1 dX6_names_67 (by decide) (fun c5 => ?_) (fun c5 => ?_)
      · replace hf := x_ifF hf c5
        refine lv_aload_n S.1 S.2.1 dX6_names_90 rfl (lv_at hl 1 rfl) ?_
        refine x_get (C := RX6) (T := TX6) (N := 32) (ci := 5) (v := .ref (a 14)) S kX6 rfl I 0 14 rfl (by decide) (by decide +kernel) rfl dX6_names_91 ?_
        refine lv_aload_n S.1 S.2.1 dX6_names_94 rfl (lv_at hl 1 rfl) ?_
        refine x_get (C := RX6) (T := TX6) (N := 32) (ci := 5) (v := .int (F 12)) S kX6 rfl I 0 12 rfl (by decide) (by decide +kernel) rfl dX6_names_95 ?_
        refine lv_iconst (v := 1) S.1 S.2.1 dX6_names_98 (by decide) ?_
        refine lv_isub S.1 S.2.1 dX6_names_99 ?_
        refine lv_iload_n S.1 S.2.1 dX6_names_100 rfl (lv_at hl 0 rfl) ?_
        obtain ⟨hi6, hf⟩ := x_ldE hf
        refine x_iast (f := (G 14)) (ws' := (wX6 cI cC cZ h a F (va_up G 14 (upd (G 14) ((F 12) - 1).toNatClampNeg r2)))) S I 11 0 rfl rfl hi6 rfl dX6_names_101 (fun H locs I => ?_)
        refine lv_aload_n S.1 S.2.1 dX6_names_102 rfl (lv_at hl 1 rfl) ?_
        refine lv_aload_n S.1 S.2.1 dX6_names_103 rfl (lv_at hl 1 rfl) ?_
        refine x_get (C := RX6) (T := TX6) (N := 32) (ci := 5) (v := .int (F 16)) S kX6 rfl I 0 16 rfl (by decide) (by decide +kernel) rfl dX6_names_104 ?_
        refine lv_iconst (v := 4) S.1 S.2.1 dX6_names_107 (by decide) ?_
        refine lv_icmp_ne (tgt := 115) S.1 S.2.1 dX6_names_108 (by decide) (fun c7 => ?_) (fun c7 => ?_)
        · replace hf := x_ifF hf c7
          refine lv_iconst (v := 0) S.1 S.2.1 dX6_names_115 (by decide) ?_
          refine x_put (C := RX6) (T := TX6) (N := 32) (ci := 5) (ws' := (wX6 cI cC cZ h a (va_up F 16 0) (va_up G 14 (upd (G 14) ((F 12) - 1).toNatClampNeg r2)))) S kX6 tyX6 tyX6_ok nmX6 rfl I 0 16 rfl (by decide) (by decide +kernel) rfl rfl (Nat.le_of_ble_eq_true rfl) rfl dX6_names_116 (fun H locs I => ?_)
          refine lv_iconst (v := 1) S.1 S.2.1 dX6_names_119 (by decide) ?_
          exact x_ri E rfl x_n1 hf rfl I rfl dX6_names_120
        · replace hf := x_ifT hf c7
          refine lv_iconst (v := 5) S.1 S.2.1 dX6_names_111 (by decide) ?_
          refine lv_goto (tgt := 116) S.1 S.2.1 dX6_names_112 (by decide) ?_
          refine x_put (C := RX6) (T := TX6) (N := 32) (ci := 5) (ws' := (wX6 cI cC cZ h a (va_up F 16 5) (va_up G 14 (upd (G 14) ((F 12) - 1).toNatClampNeg r2)))) S kX6 tyX6 tyX6_ok nmX6 rfl I 0 16 rfl (by decide) (by decide +kernel) rfl rfl (Nat.le_of_ble_eq_true rfl) rfl dX6_names_116 (fun H locs I => ?_)
          refine lv_iconst (v := 1) S.1 S.2.1 dX6_names_119 (by decide) ?_
          exact x_ri E rfl x_n1 hf rfl I rfl dX6_names_120
      · replace hf := x_ifT hf c5
        refine lv_aload_n S.1 S.2.1 dX6_names_70 rfl (lv_at hl 1 rfl) ?_
        refine x_get (C := RX6) (T := TX6) (N := 32) (ci := 5) (v := .ref (a 15)) S kX6 rfl I 0 15 rfl (by decide) (by decide +kernel) rfl dX6_names_71 ?_
        refine lv_aload_n S.1 S.2.1 dX6_names_74 rfl (lv_at hl 1 rfl) ?_
        refine x_get (C := RX6) (T := TX6) (N := 32) (ci := 5) (v := .int (F 12)) S kX6 rfl I 0 12 rfl (by decide) (by decide +kernel) rfl dX6_names_75 ?_
        refine lv_iconst (v := 1) S.1 S.2.1 dX6_names_78 (by decide) ?_
        refine lv_isub S.1 S.2.1 dX6_names_79 ?_
        refine lv_iload_n S.1 S.2.1 dX6_names_80 rfl (lv_at hl 0 rfl) ?_
        obtain ⟨hi8, hf⟩ := x_ldE hf
        refine x_iast (f := (G 15)) (ws' := (wX6 cI cC cZ h a F (va_up G 15 (upd (G 15) ((F 12) - 1).toNatClampNeg r2)))) S I 12 0 rfl rfl hi8 rfl dX6_names_81 (fun H locs I => ?_)
        refine lv_aload_n S.1 S.2.1 dX6_names_82 rfl (lv_at hl 1 rfl) ?_
        refine lv_iconst (v := 0) S.1 S.2.1 dX6_names_83 (by decide) ?_
        refine x_put (C := RX6) (T := TX6) (N := 32) (ci := 5) (ws' := (wX6 cI cC cZ h a (va_up F 16 0) (va_up G 15 (upd (G 15) ((F 12) - 1).toNatClampNeg r2)))) S kX6 tyX6 tyX6_ok nmX6 rfl I 0 16 rfl (by decide) (by decide +kernel) rfl rfl (Nat.le_of_ble_eq_true rfl) rfl dX6_names_84 (fun H locs I => ?_)
        refine lv_goto (tgt := 119) S.1 S.2.1 dX6_names_87 (by decide) ?_
        refine lv_iconst (v := 1) S.1 S.2.1 dX6_names_119 (by decide) ?_
        exact x_ri E rfl x_n1 hf rfl I rfl dX6_names_120
    · replace hf := x_ifT hf c4
      refine lv_aload_n S.1 S.2.1 dX6_names_20 rfl (lv_at hl 1 rfl) ?_
      refine lv_dup S.1 S.2.1 dX6_names_21 rfl ?_
      refine x_get (C := RX6) (T := TX6) (N := 32) (ci := 5) (v := .int (F 12)) S kX6 rfl I 0 12 rfl (by decide) (by decide +kernel) rfl dX6_names_22 ?_
      refine lv_iconst (v := 1) S.1 S.2.1 dX6_names_25 (by decide) ?_
      refine lv_isub S.1 S.2.1 dX6_names_26 ?_
      refine x_put (C := RX6) (T := TX6) (N := 32) (ci := 5) (ws' := (wX6 cI cC cZ h a (va_up F 12 ((F 12) - 1)) G)) S kX6 tyX6 tyX6_ok nmX6 rfl I 0 12 rfl (by decide) (by decide +kernel) rfl rfl (Nat.le_of_ble_eq_true rfl) rfl dX6_names_27 (fun H locs I => ?_)
      refine lv_aload_n S.1 S.2.1 dX6_names_30 rfl (lv_at hl 1 rfl) ?_
      refine lv_aload_n S.1 S.2.1 dX6_names_31 rfl (lv_at hl 1 rfl) ?_
      refine lv_aload_n S.1 S.2.1 dX6_names_32 rfl (lv_at hl 1 rfl) ?_
      refine x_get (C := RX6) (T := TX6) (N := 32) (ci := 5) (v := .ref (a 13)) S kX6 rfl I 0 13 rfl (by decide) (by decide +kernel) rfl dX6_names_33 ?_
      refine lv_aload_n S.1 S.2.1 dX6_names_36 rfl (lv_at hl 1 rfl) ?_
      refine x_get (C := RX6) (T := TX6) (N := 32) (ci := 5) (v := .int ((F 12) - 1)) S kX6 rfl I 0 12 rfl (by decide) (by decide +kernel) rfl dX6_names_37 ?_
      obtain ⟨hi9, hf⟩ := x_ldE hf
      refine x_iald (f := (G 13)) S I 10 0 rfl rfl hi9 dX6_names_40 ?_
      refine lv_iconst (v := (-1)) S.1 S.2.1 dX6_names_41 (by decide) ?_
      refine lv_iconst (v := (-1)) S.1 S.2.1 dX6_names_42 (by decide) ?_
      refine lv_aload_n S.1 S.2.1 dX6_names_43 rfl (lv_at hl 1 rfl) ?_
      refine x_get (C := RX6) (T := TX6) (N := 32) (ci := 5) (v := .ref (a 14)) S kX6 rfl I 0 14 rfl (by decide) (by decide +kernel) rfl dX6_names_44 ?_
      refine lv_aload_n S.1 S.2.1 dX6_names_47 rfl (lv_at hl 1 rfl) ?_
      refine x_get (C := RX6) (T := TX6) (N := 32) (ci := 5) (v := .int ((F 12) - 1)) S kX6 rfl I 0 12 rfl (by decide) (by decide +kernel) rfl dX6_names_48 ?_
      obtain ⟨hi10, hf⟩ := x_ldE hf
      refine x_iald (f := (G 14)) S I 11 0 rfl rfl hi10 dX6_names_51 ?_
      refine lv_iload_n S.1 S.2.1 dX6_names_52 rfl (lv_at hl 0 rfl) ?_
      obtain ⟨r12, F13, G14, hg11, hf⟩ := x_b3E hf
      refine x_cA (As := [.int ((G 13) ((F 12) - 1).toNatClampNeg), .int (-1), .int (-1), .int ((G 14) ((F 12) - 1).toNatClampNeg), .int r2]) (rest := [.ref h]) (st' := [.int r12, .ref h]) (ws' := (wX6 cI cC cZ h a F13 G14)) S I (tX6_make l D cI cC cZ h a (va_up F 12 ((F 12) - 1)) G ((G 13) ((F 12) - 1).toNatClampNeg) (-1) (-1) ((G 14) ((F 12) - 1).toNatClampNeg) r2 (r12, F13, G14) hg11) (cwV 5 S.2.2.2.2 gX6_names_X6_make rfl rfl rfl (by decide +kernel) ⟨Nat.le_of_ble_eq_true rfl, Nat.le_of_ble_eq_true rfl⟩) 0 5 rfl rfl rfl rfl hl rfl (Nat.le_of_ble_eq_true rfl) ⟨Nat.zero_le _, Nat.zero_le _⟩ rfl dX6_names_53 (fun H locs I => ?_)
      obtain ⟨F16, G17, hg15, hf⟩ := x_b2E hf
      refine x_cA (As := [.int r12]) (rest := []) (st' := []) (ws' := (wX6 cI cC cZ h a F16 G17)) S I (tX6_end l D cI cC cZ h a F13 G14 r12 (F16, G17) hg15) (cwV 1 S.2.2.2.2 gX6_names_X6_end rfl rfl rfl (by decide +kernel) ⟨Nat.le_of_ble_eq_true rfl, Nat.le_of_ble_eq_true rfl⟩) 0 5 rfl rfl rfl rfl hl rfl (Nat.le_of_ble_eq_true rfl) ⟨Nat.zero_le _, Nat.zero_le _⟩ rfl dX6_names_56 (fun H locs I => ?_)
      refine lv_goto (tgt := 119) S.1 S.2.1 dX6_names_59 (by decide) ?_
      refine lv_iconst (v := 1) S.1 S.2.1 dX6_names_119 (by decide) ?_
      exact x_ri E rfl x_n1 hf rfl I rfl dX6_names_120
  · replace hf := x_ifT hf c3
    refine lv_iconst (v := 0) S.1 S.2.1 dX6_names_10 (by decide) ?_
    exact x_ri E rfl x_n0 hf rfl I rfl dX6_names_11
set_option maxHeartbeats 4000000 in
set_option maxRecDepth 100000 in
theorem tX6_goesOn (l : Launch) (D : va_G) (cI cC cZ : ClassId) (h : Nat) (a : Nat → Nat) (F : xF) (G : xG) (p1 : Int32) (res : Int32 × xF × xG) (hf : fX6_goesOn F G p1 = some res) : xC l yX6_goesOn wsX6_goesOn rmX6_goesOn D [.ref h, .int p1] (wX6 cI cC cZ h a F G) (fun t => (wX6 cI cC cZ h a t.2.1 t.2.2)) (xT cI cC cZ) (fun t => some (.int t.1)) res := by
  have kX6 : ∀ w ∈ u_ws RX6 TX6 32, w ∈ wsX6_goesOn := by decide +kernel
  refine x_of (cc := cX6_goesOn) (maxL := 3) (ret := (some .boolean)) (by decide) rfl (Nat.le_of_ble_eq_true rfl) ?_
  intro p e s m args below meth c A Q ls S I E hl
  replace hl : lv_has ls 3 [(0, .ref h), (1, .int p1)] := hl
  replace hf := (fX6_goesOn_e _ _ _).symm.trans hf
  refine lv_iload_n S.1 S.2.1 dX6_goesOn_0 rfl (lv_at hl 1 rfl) ?_
  obtain ⟨r2, hg1, hf⟩ := x_b1E hf
  refine x_c0 (As := [.int p1]) (rest := []) (st' := [.int r2]) S I rfl (tX6_kindOf l D cI cC cZ p1 r2 hg1) (va_cwS 1 S.2.2.2.2 gX6_goesOn_X6_kindOf rfl rfl rfl (by decide +kernel) ⟨Nat.le_of_ble_eq_true rfl, Nat.le_of_ble_eq_true rfl⟩) hl rfl (Nat.le_of_ble_eq_true rfl) ⟨Nat.zero_le _, Nat.zero_le _⟩ rfl dX6_goesOn_1 (fun H locs I => ?_)
  refine lv_istore_n (lv' := [(2, .int r2), (0, .ref h), (1, .int p1)]) S.1 S.2.1 dX6_goesOn_4 rfl hl (by decide) rfl (fun ls hl => ?_)
  refine lv_aload_n S.1 S.2.1 dX6_goesOn_5 rfl (lv_at hl 1 rfl) ?_
  refine x_get (C := RX6) (T := TX6) (N := 32) (ci := 5) (v := .int (F 16)) S kX6 rfl I 0 16 rfl (by decide) (by decide +kernel) rfl dX6_goesOn_6 ?_
  by_cases c3 : (F 16) = 0
  · replace hf := x_ifT hf c3
    refine lv_tableIn (off := 51) (tgt := 60) S.1 S.2.1 dX6_goesOn_9 (by rw [c3]; decide) (by rw [c3]; decide) (by rw [c3]; rfl) (by decide) ?_
    refine lv_aload_n S.1 S.2.1 dX6_goesOn_60 rfl (lv_at hl 1 rfl) ?_
    refine lv_iload_n S.1 S.2.1 dX6_goesOn_61 rfl (lv_at hl 2 rfl) ?_
    obtain ⟨r5, F6, G7, hg4, hf⟩ := x_b3E hf
    refine x_cA (As := [.int p1]) (rest := []) (st' := [.int r5]) (ws' := (wX6 cI cC cZ h a F6 G7)) S I (tX6_startsWith l D cI cC cZ h a F G p1 (r5, F6, G7) hg4) (cwV 1 S.2.2.2.2 gX6_goesOn_X6_startsWith rfl rfl rfl (by decide +kernel) ⟨Nat.le_of_ble_eq_true rfl, Nat.le_of_ble_eq_true rfl⟩) 0 5 rfl rfl rfl rfl hl rfl (Nat.le_of_ble_eq_true rfl) ⟨Nat.zero_le _, Nat.zero_le _⟩ rfl dX6_goesOn_62 (fun H locs I => ?_)
    exact x_ri E rfl rfl hf rfl I rfl dX6_goesOn_65
  · replace hf := x_ifF hf c3
    by_cases c8 : (F 16) = 1
    · replace hf := x_ifT hf c8
      refine lv_tableIn (off := 57) (tgt := 66) S.1 S.2.1 dX6_goesOn_9 (by rw [c8]; decide) (by rw [c8]; decide) (by rw [c8]; rfl) (by decide) ?_
      refine lv_aload_n S.1 S.2.1 dX6_goesOn_66 rfl (lv_at hl 1 rfl) ?_
      refine x_get (C := RX6) (T := TX6) (N := 32) (ci := 5) (v := .ref (a 13)) S kX6 rfl I 0 13 rfl (by decide) (by decide +kernel) rfl dX6_goesOn_67 ?_
      refine lv_aload_n S.1 S.2.1 dX6_goesOn_70 rfl (lv_at hl 1 rfl) ?_
      refine x_get (C := RX6) (T := TX6) (N := 32) (ci := 5) (v := .int (F 12)) S kX6 rfl I 0 12 rfl (by decide) (by decide +kernel) rfl dX6_goesOn_71 ?_
      refine lv_iconst (v := 1) S.1 S.2.1 dX6_goesOn_74 (by decide) ?_
      refine lv_isub S.1 S.2.1 dX6_goesOn_75 ?_
      refine lv_iload_n S.1 S.2.1 dX6_goesOn_76 rfl (lv_at hl 0 rfl) ?_
      obtain ⟨hi9, hf⟩ := x_ldE hf
      refine x_iast (f := (G 13)) (ws' := (wX6 cI cC cZ h a F (va_up G 13 (upd (G 13) ((F 12) - 1).toNatClampNeg r2)))) S I 10 0 rfl rfl hi9 rfl dX6_goesOn_77 (fun H locs I => ?_)
      refine lv_aload_n S.1 S.2.1 dX6_goesOn_78 rfl (lv_at hl 1 rfl) ?_
      refine lv_iconst (v := 2) S.1 S.2.1 dX6_goesOn_79 (by decide) ?_
      refine x_put (C := RX6) (T := TX6) (N := 32) (ci := 5) (ws' := (wX6 cI cC cZ h a (va_up F 16 2) (va_up G 13 (upd (G 13) ((F 12) - 1).toNatClampNeg r2)))) S kX6 tyX6 tyX6_ok nmX6 rfl I 0 16 rfl (by decide) (by decide +kernel) rfl rfl (Nat.le_of_ble_eq_true rfl) rfl dX6_goesOn_80 (fun H locs I => ?_)
      refine lv_iload_n S.1 S.2.1 dX6_goesOn_83 rfl (lv_at hl 0 rfl) ?_
      refine lv_if_eq (tgt := 92) S.1 S.2.1 dX6_goesOn_84 (by decide) (fun c10 => ?_) (fun c10 => ?_)
      · replace hf := x_ifT hf c10
        refine lv_iconst (v := 1) S.1 S.2.1 dX6_goesOn_92 (by decide) ?_
        refine lv_goto (tgt := 97) S.1 S.2.1 dX6_goesOn_93 (by decide) ?_
        exact x_ri E rfl x_n1 hf rfl I rfl dX6_goesOn_97
      · replace hf := x_ifF hf c10
        refine lv_iload_n S.1 S.2.1 dX6_goesOn_87 rfl (lv_at hl 0 rfl) ?_
        refine lv_iconst (v := 1) S.1 S.2.1 dX6_goesOn_88 (by decide) ?_
        refine lv_icmp_ne (tgt := 96) S.1 S.2.1 dX6_goesOn_89 (by decide) (fun c11 => ?_) (fun c11 => ?_)
        · replace hf := x_ifF hf c11
          refine lv_iconst (v := 0) S.1 S.2.1 dX6_goesOn_96 (by decide) ?_
          exact x_ri E rfl x_n0 hf rfl I rfl dX6_goesOn_97
        · replace hf := x_ifT hf c11
          refine lv_iconst (v := 1) S.1 S.2.1 dX6_goesOn_92 (by decide) ?_
          refine lv_goto (tgt := 97) S.1 S.2.1 dX6_goesOn_93 (by decide) ?_
          exact x_ri E rfl x_n1 hf rfl I rfl dX6_goesOn_97
    · replace hf := x_ifF hf c8
      by_cases c12 : (F 16) = 2
      · replace hf := x_ifT hf c12
        refine lv_tableIn (off := 180) (tgt := 189) S.1 S.2.1 dX6_goesOn_9 (by rw [c12]; decide) (by rw [c12]; decide) (by rw [c12]; rfl) (by decide) ?_
        refine lv_aload_n S.1 S.2.1 dX6_goesOn_189 rfl (lv_at hl 1 rfl) ?_
        refine lv_iload_n S.1 S.2.1 dX6_goesOn_190 rfl (lv_at hl 2 rfl) ?_
        obtain ⟨r14, F15, G16, hg13, hf⟩ := x_b3E hf
        refine x_cA (As := [.int p1]) (rest := []) (st' := [.int r14]) (ws' := (wX6 cI cC cZ h a F15 G16)) S I (tX6_names l D cI cC cZ h a F G p1 (r14, F15, G16) hg13) (cwV 1 S.2.2.2.2 gX6_goesOn_X6_names rfl rfl rfl (by decide +kernel) ⟨Nat.le_of_ble_eq_true rfl, Nat.le_of_ble_eq_true rfl⟩) 0 5 rfl rfl rfl rfl hl rfl (Nat.le_of_ble_eq_true rfl) ⟨Nat.zero_le _, Nat.zero_le _⟩ rfl dX6_goesOn_191 (fun H locs I => ?_)
        exact x_ri E rfl rfl hf rfl I rfl dX6_goesOn_194
      · replace hf := x_ifF hf c12
        by_cases c17 : (F 16) = 3
        · replace hf := x_ifT hf c17
          refine lv_tableIn (off := 180) (tgt := 189) S.1 S.2.1 dX6_goesOn_9 (by rw [c17]; decide) (by rw [c17]; decide) (by rw [c17]; rfl) (by decide) ?_
          refine lv_aload_n S.1 S.2.1 dX6_goesOn_189 rfl (lv_at hl 1 rfl) ?_
          refine lv_iload_n S.1 S.2.1 dX6_goesOn_190 rfl (lv_at hl 2 rfl) ?_
          obtain ⟨r19, F20, G21, hg18, hf⟩ := x_b3E hf
          refine x_cA (As := [.int p1]) (rest := []) (st' := [.int r19]) (ws' := (wX6 cI cC cZ h a F20 G21)) S I (tX6_names l D cI cC cZ h a F G p1 (r19, F20, G21) hg18) (cwV 1 S.2.2.2.2 gX6_goesOn_X6_names rfl rfl rfl (by decide +kernel) ⟨Nat.le_of_ble_eq_true rfl, Nat.le_of_ble_eq_true rfl⟩) 0 5 rfl rfl rfl rfl hl rfl (Nat.le_of_ble_eq_true rfl) ⟨Nat.zero_le _, Nat.zero_le _⟩ rfl dX6_goesOn_191 (fun H locs I => ?_)
          exact x_ri E rfl rfl hf rfl I rfl dX6_goesOn_194
        · replace hf := x_ifF hf c17
          by_cases c22 : (F 16) = 4
          · replace hf := x_ifT hf c22
            refine lv_tableIn (off := 180) (tgt := 189) S.1 S.2.1 dX6_goesOn_9 (by rw [c22]; decide) (by rw [c22]; decide) (by rw [c22]; rfl) (by decide) ?_
            refine lv_aload_n S.1 S.2.1 dX6_goesOn_189 rfl (lv_at hl 1 rfl) ?_
            refine lv_iload_n S.1 S.2.1 dX6_goesOn_190 rfl (lv_at hl 2 rfl) ?_
            obtain ⟨r24, F25, G26, hg23, hf⟩ := x_b3E hf
            refine x_cA (As := [.int p1]) (rest := []) (st' := [.int r24]) (ws' := (wX6 cI cC cZ h a F25 G26)) S I (tX6_names l D cI cC cZ h a F G p1 (r24, F25, G26) hg23) (cwV 1 S.2.2.2.2 gX6_goesOn_X6_names rfl rfl rfl (by decide +kernel) ⟨Nat.le_of_ble_eq_true rfl, Nat.le_of_ble_eq_true rfl⟩) 0 5 rfl rfl rfl rfl hl rfl (Nat.le_of_ble_eq_true rfl) ⟨Nat.zero_le _, Nat.zero_le _⟩ rfl dX6_goesOn_191 (fun H locs I => ?_)
            exact x_ri E rfl rfl hf rfl I rfl dX6_goesOn_194
          · replace hf := x_ifF hf c22
            by_cases c27 : (F 16) = 5
            · replace hf := x_ifT hf c27
              refine lv_tableIn (off := 180) (tgt := 189) S.1 S.2.1 dX6_goesOn_9 (by rw [c27]; decide) (by rw [c27]; decide) (by rw [c27]; rfl) (by decide) ?_
              refine lv_aload_n S.1 S.2.1 dX6_goesOn_189 rfl (lv_at hl 1 rfl) ?_
              refine lv_iload_n S.1 S.2.1 dX6_goesOn_190 rfl (lv_at hl 2 rfl) ?_
              obtain ⟨r29, F30, G31, hg28, hf⟩ := x_b3E hf
              refine x_cA (As := [.int p1]) (rest := []) (st' := [.int r29]) (ws' := (wX6 cI cC cZ h a F30 G31)) S I (tX6_names l D cI cC cZ h a F G p1 (r29, F30, G31) hg28) (cwV 1 S.2.2.2.2 gX6_goesOn_X6_names rfl rfl rfl (by decide +kernel) ⟨Nat.le_of_ble_eq_true rfl, Nat.le_of_ble_eq_true rfl⟩) 0 5 rfl rfl rfl rfl hl rfl (Nat.le_of_ble_eq_true rfl) ⟨Nat.zero_le _, Nat.zero_le _⟩ rfl dX6_goesOn_191 (fun H locs I => ?_)
              exact x_ri E rfl rfl hf rfl I rfl dX6_goesOn_194
            · replace hf := x_ifF hf c27
              by_cases c32 : (F 16) = 6
              · replace hf := x_ifT hf c32
                refine lv_tableIn (off := 89) (tgt := 98) S.1 S.2.1 dX6_goesOn_9 (by rw [c32]; decide) (by rw [c32]; decide) (by rw [c32]; rfl) (by decide) ?_
                refine lv_aload_n S.1 S.2.1 dX6_goesOn_98 rfl (lv_at hl 1 rfl) ?_
                refine x_get (C := RX6) (T := TX6) (N := 32) (ci := 5) (v := .ref (a 13)) S kX6 rfl I 0 13 rfl (by decide) (by decide +kernel) rfl dX6_goesOn_99 ?_
                refine lv_aload_n S.1 S.2.1 dX6_goesOn_102 rfl (lv_at hl 1 rfl) ?_
                refine x_get (C := RX6) (T := TX6) (N := 32) (ci := 5) (v := .int (F 12)) S kX6 rfl I 0 12 rfl (by decide) (by decide +kernel) rfl dX6_goesOn_103 ?_
                refine lv_iconst (v := 1) S.1 S.2.1 dX6_goesOn_106 (by decide) ?_
                refine lv_isub S.1 S.2.1 dX6_goesOn_107 ?_
                refine lv_iload_n S.1 S.2.1 dX6_goesOn_108 rfl (lv_at hl 0 rfl) ?_
                obtain ⟨hi33, hf⟩ := x_ldE hf
                refine x_iast (f := (G 13)) (ws' := (wX6 cI cC cZ h a F (va_up G 13 (upd (G 13) ((F 12) - 1).toNatClampNeg r2)))) S I 10 0 rfl rfl hi33 rfl dX6_goesOn_109 (fun H locs I => ?_)
                refine lv_aload_n S.1 S.2.1 dX6_goesOn_110 rfl (lv_at hl 1 rfl) ?_
                refine lv_iconst (v := 0) S.1 S.2.1 dX6_goesOn_111 (by decide) ?_
                refine x_put (C := RX6) (T := TX6) (N := 32) (ci := 5) (ws' := (wX6 cI cC cZ h a (va_up F 16 0) (va_up G 13 (upd (G 13) ((F 12) - 1).toNatClampNeg r2)))) S kX6 tyX6 tyX6_ok nmX6 rfl I 0 16 rfl (by decide) (by decide +kernel) rfl rfl (Nat.le_of_ble_eq_true rfl) rfl dX6_goesOn_112 (fun H locs I => ?_)
                refine lv_iload_n S.1 S.2.1 dX6_goesOn_115 rfl (lv_at hl 0 rfl) ?_
                refine lv_iconst (v := 3) S.1 S.2.1 dX6_goesOn_116 (by decide) ?_
                refine lv_iconst (v := 5) S.1 S.2.1 dX6_goesOn_117 (by decide) ?_
                obtain ⟨r35, hg34, hf⟩ := x_b1E hf
                refine x_c0 (As := [.int r2, .int 3, .int 5]) (rest := []) (st' := [.int r35]) S I rfl (tX6_in l D cI cC cZ r2 3 5 r35 hg34) (va_cwS 3 S.2.2.2.2 gX6_goesOn_X6_in rfl rfl rfl (by decide +kernel) ⟨Nat.le_of_ble_eq_true rfl, Nat.le_of_ble_eq_true rfl⟩) hl rfl (Nat.le_of_ble_eq_true rfl) ⟨Nat.zero_le _, Nat.zero_le _⟩ rfl dX6_goesOn_118 (fun H locs I => ?_)
                exact x_ri E rfl rfl hf rfl I rfl dX6_goesOn_121
              · replace hf := x_ifF hf c32
                by_cases c36 : (F 16) = 7
                · replace hf := x_ifT hf c36
                  refine lv_tableIn (off := 113) (tgt := 122) S.1 S.2.1 dX6_goesOn_9 (by rw [c36]; decide) (by rw [c36]; decide) (by rw [c36]; rfl) (by decide) ?_
                  refine lv_iload_n S.1 S.2.1 dX6_goesOn_122 rfl (lv_at hl 2 rfl) ?_
                  refine lv_bipush (v := 41) S.1 S.2.1 dX6_goesOn_123 (by decide) ?_
                  have hj175 : ∀ (F37 : xF) (G38 : xG) (H : Heap) (locs : List Loc) (ls : Array Slot), (fX6_goesOn_j175 p1) F37 G38 = some res → xI D A s (wX6 cI cC cZ h a F37 G38) (xT cI cC cZ) H locs → lv_has ls 3 [(1, .int p1)] → W p l e (headSpec wsX6_goesOn rmX6_goesOn).room s m args below meth c H locs 0 0 Q (F0 m 175 ls []) := by
                    intro F37 G38 H locs ls hf I hl
                    replace hf := (fX6_goesOn_j175_e _ _ _).symm.trans hf
                    refine lv_iload_n S.1 S.2.1 dX6_goesOn_175 rfl (lv_at hl 0 rfl) ?_
                    refine lv_bipush (v := 41) S.1 S.2.1 dX6_goesOn_176 (by decide) ?_
                    refine lv_icmp_ne (tgt := 185) S.1 S.2.1 dX6_goesOn_178 (by decide) (fun c39 => ?_) (fun c39 => ?_)
                    · replace hf := x_ifF hf c39
                      refine lv_iconst (v := 0) S.1 S.2.1 dX6_goesOn_185 (by decide) ?_
                      exact x_ri E rfl x_n0 hf rfl I rfl dX6_goesOn_186
                    · replace hf := x_ifT hf c39
                      refine lv_iconst (v := 1) S.1 S.2.1 dX6_goesOn_181 (by decide) ?_
                      refine lv_goto (tgt := 186) S.1 S.2.1 dX6_goesOn_182 (by decide) ?_
                      exact x_ri E rfl x_n1 hf rfl I rfl dX6_goesOn_186
                  refine lv_icmp_ne (tgt := 175) S.1 S.2.1 dX6_goesOn_125 (by decide) (fun c40 => ?_) (fun c40 => ?_)
                  · replace hf := x_ifF hf c40
                    exact hj175 F G _ _ _ hf I (lv_sub hl [2] rfl)
                  · replace hf := x_ifT hf c40
                    refine lv_aload_n S.1 S.2.1 dX6_goesOn_128 rfl (lv_at hl 1 rfl) ?_
                    refine lv_dup S.1 S.2.1 dX6_goesOn_129 rfl ?_
                    refine x_get (C := RX6) (T := TX6) (N := 32) (ci := 5) (v := .int (F 12)) S kX6 rfl I 0 12 rfl (by decide) (by decide +kernel) rfl dX6_goesOn_130 ?_
                    refine lv_iconst (v := 1) S.1 S.2.1 dX6_goesOn_133 (by decide) ?_
                    refine lv_isub S.1 S.2.1 dX6_goesOn_134 ?_
                    refine x_put (C := RX6) (T := TX6) (N := 32) (ci := 5) (ws' := (wX6 cI cC cZ h a (va_up F 12 ((F 12) - 1)) G)) S kX6 tyX6 tyX6_ok nmX6 rfl I 0 12 rfl (by decide) (by decide +kernel) rfl rfl (Nat.le_of_ble_eq_true rfl) rfl dX6_goesOn_135 (fun H locs I => ?_)
                    refine lv_aload_n S.1 S.2.1 dX6_goesOn_138 rfl (lv_at hl 1 rfl) ?_
                    refine lv_aload_n S.1 S.2.1 dX6_goesOn_139 rfl (lv_at hl 1 rfl) ?_
                    refine lv_aload_n S.1 S.2.1 dX6_goesOn_140 rfl (lv_at hl 1 rfl) ?_
                    refine x_get (C := RX6) (T := TX6) (N := 32) (ci := 5) (v := .ref (a 13)) S kX6 rfl I 0 13 rfl (by decide) (by decide +kernel) rfl dX6_goesOn_141 ?_
                    refine lv_aload_n S.1 S.2.1 dX6_goesOn_144 rfl (lv_at hl 1 rfl) ?_
                    refine x_get (C := RX6) (T := TX6) (N := 32) (ci := 5) (v := .int ((F 12) - 1)) S kX6 rfl I 0 12 rfl (by decide) (by decide +kernel) rfl dX6_goesOn_145 ?_
                    obtain ⟨hi41, hf⟩ := x_ldE hf
                    refine x_iald (f := (G 13)) S I 10 0 rfl rfl hi41 dX6_goesOn_148 ?_
                    refine lv_aload_n S.1 S.2.1 dX6_goesOn_149 rfl (lv_at hl 1 rfl) ?_
                    refine x_get (C := RX6) (T := TX6) (N := 32) (ci := 5) (v := .ref (a 14)) S kX6 rfl I 0 14 rfl (by decide) (by decide +kernel) rfl dX6_goesOn_150 ?_
                    refine lv_aload_n S.1 S.2.1 dX6_goesOn_153 rfl (lv_at hl 1 rfl) ?_
                    refine x_get (C := RX6) (T := TX6) (N := 32) (ci := 5) (v := .int ((F 12) - 1)) S kX6 rfl I 0 12 rfl (by decide) (by decide +kernel) rfl dX6_goesOn_154 ?_
                    obtain ⟨hi42, hf⟩ := x_ldE hf
                    refine x_iald (f := (G 14)) S I 11 0 rfl rfl hi42 dX6_goesOn_157 ?_
                    refine lv_aload_n S.1 S.2.1 dX6_goesOn_158 rfl (lv_at hl 1 rfl) ?_
                    refine x_get (C := RX6) (T := TX6) (N := 32) (ci := 5) (v := .ref (a 15)) S kX6 rfl I 0 15 rfl (by decide) (by decide +kernel) rfl dX6_goesOn_159 ?_
                    refine lv_aload_n S.1 S.2.1 dX6_goesOn_162 rfl (lv_at hl 1 rfl) ?_
                    refine x_get (C := RX6) (T := TX6) (N := 32) (ci := 5) (v := .int ((F 12) - 1)) S kX6 rfl I 0 12 rfl (by decide) (by decide +kernel) rfl dX6_goesOn_163 ?_
                    obtain ⟨hi43, hf⟩ := x_ldE hf
                    refine x_iald (f := (G 15)) S I 12 0 rfl rfl hi43 dX6_goesOn_166 ?_
                    refine lv_iconst (v := (-1)) S.1 S.2.1 dX6_goesOn_167 (by decide) ?_
                    refine lv_iconst (v := (-1)) S.1 S.2.1 dX6_goesOn_168 (by decide) ?_
                    obtain ⟨r45, F46, G47, hg44, hf⟩ := x_b3E hf
                    refine x_cA (As := [.int ((G 13) ((F 12) - 1).toNatClampNeg), .int ((G 14) ((F 12) - 1).toNatClampNeg), .int ((G 15) ((F 12) - 1).toNatClampNeg), .int (-1), .int (-1)]) (rest := [.ref h]) (st' := [.int r45, .ref h]) (ws' := (wX6 cI cC cZ h a F46 G47)) S I (tX6_make l D cI cC cZ h a (va_up F 12 ((F 12) - 1)) G ((G 13) ((F 12) - 1).toNatClampNeg) ((G 14) ((F 12) - 1).toNatClampNeg) ((G 15) ((F 12) - 1).toNatClampNeg) (-1) (-1) (r45, F46, G47) hg44) (cwV 5 S.2.2.2.2 gX6_goesOn_X6_make rfl rfl rfl (by decide +kernel) ⟨Nat.le_of_ble_eq_true rfl, Nat.le_of_ble_eq_true rfl⟩) 0 5 rfl rfl rfl rfl hl rfl (Nat.le_of_ble_eq_true rfl) ⟨Nat.zero_le _, Nat.zero_le _⟩ rfl dX6_goesOn_169 (fun H locs I => ?_)
                    obtain ⟨F49, G50, hg48, hf⟩ := x_b2E hf
                    refine x_cA (As := [.int r45]) (rest := []) (st' := []) (ws' := (wX6 cI cC cZ h a F49 G50)) S I (tX6_end l D cI cC cZ h a F46 G47 r45 (F49, G50) hg48) (cwV 1 S.2.2.2.2 gX6_goesOn_X6_end rfl rfl rfl (by decide +kernel) ⟨Nat.le_of_ble_eq_true rfl, Nat.le_of_ble_eq_true rfl⟩) 0 5 rfl rfl rfl rfl hl rfl (Nat.le_of_ble_eq_true rfl) ⟨Nat.zero_le _, Nat.zero_le _⟩ rfl dX6_goesOn_172 (fun H locs I => ?_)
                    exact hj175 F49 G50 _ _ _ hf I (lv_sub hl [2] rfl)
                · replace hf := x_ifF hf c36
                  by_cases c51 : (F 16) = 8
                  · replace hf := x_ifT hf c51
                    refine lv_tableIn (off := 178) (tgt := 187) S.1 S.2.1 dX6_goesOn_9 (by rw [c51]; decide) (by rw [c51]; decide) (by rw [c51]; rfl) (by decide) ?_
                    refine lv_iconst (v := 0) S.1 S.2.1 dX6_goesOn_187 (by decide) ?_
                    exact x_ri E rfl x_n0 hf rfl I rfl dX6_goesOn_188
                  · replace hf := x_ifF hf c51
                    refine lv_tableOut (tgt := 189) S.1 S.2.1 dX6_goesOn_9 (by have e0 := lv_neT c3 (a := 0) (by decide); have e1 := lv_neT c8 (a := 1) (by decide); have e2 := lv_neT c12 (a := 2) (by decide); have e3 := lv_neT c17 (a := 3) (by decide); have e4 := lv_neT c22 (a := 4) (by decide); have e5 := lv_neT c27 (a := 5) (by decide); have e6 := lv_neT c32 (a := 6) (by decide); have e7 := lv_neT c36 (a := 7) (by decide); have e8 := lv_neT c51 (a := 8) (by decide); omega) (by decide) ?_
                    refine lv_aload_n S.1 S.2.1 dX6_goesOn_189 rfl (lv_at hl 1 rfl) ?_
                    refine lv_iload_n S.1 S.2.1 dX6_goesOn_190 rfl (lv_at hl 2 rfl) ?_
                    obtain ⟨r53, F54, G55, hg52, hf⟩ := x_b3E hf
                    refine x_cA (As := [.int p1]) (rest := []) (st' := [.int r53]) (ws' := (wX6 cI cC cZ h a F54 G55)) S I (tX6_names l D cI cC cZ h a F G p1 (r53, F54, G55) hg52) (cwV 1 S.2.2.2.2 gX6_goesOn_X6_names rfl rfl rfl (by decide +kernel) ⟨Nat.le_of_ble_eq_true rfl, Nat.le_of_ble_eq_true rfl⟩) 0 5 rfl rfl rfl rfl hl rfl (Nat.le_of_ble_eq_true rfl) ⟨Nat.zero_le _, Nat.zero_le _⟩ rfl dX6_goesOn_191 (fun H locs I => ?_)
                    exact x_ri E rfl rfl hf rfl I rfl dX6_goesOn_194
set_option maxHeartbeats 4000000 in
set_option maxRecDepth 100000 in
theorem tX6_read (l : Launch) (D : va_G) (cI cC cZ : ClassId) (h : Nat) (a : Nat → Nat) (F : xF) (G : xG) (res : Int32 × xF × xG) (hf : fX6_read F G = some res) : xC l yX6_read wsX6_read rmX6_read D [.ref h] (wX6 cI cC cZ h a F G) (fun t => (wX6 cI cC cZ h a t.2.1 t.2.2)) (xT cI cC cZ) (fun t => some (.int t.1)) res := by
  have kX6 : ∀ w ∈ u_ws RX6 TX6 32, w ∈ wsX6_read := by decide +kernel
  refine x_of (cc := cX6_read) (maxL := 2) (ret := (some .int)) (by decide) rfl (Nat.le_of_ble_eq_true rfl) ?_
  intro p e s m args below meth c A Q ls S I E hl
  replace hl : lv_has ls 2 [(0, .ref h)] := hl
  replace hf := (fX6_read_e _ _).symm.trans hf
  refine lv_aload_n S.1 S.2.1 dX6_read_0 rfl (lv_at hl 0 rfl) ?_
  refine lv_iconst (v := 0) S.1 S.2.1 dX6_read_1 (by decide) ?_
  refine x_put (C := RX6) (T := TX6) (N := 32) (ci := 5) (ws' := (wX6 cI cC cZ h a (va_up F 3 0) G)) S kX6 tyX6 tyX6_ok nmX6 rfl I 0 3 rfl (by decide) (by decide +kernel) rfl rfl (Nat.le_of_ble_eq_true rfl) rfl dX6_read_2 (fun H locs I => ?_)
  refine lv_aload_n S.1 S.2.1 dX6_read_5 rfl (lv_at hl 0 rfl) ?_
  refine lv_iconst (v := 0) S.1 S.2.1 dX6_read_6 (by decide) ?_
  refine x_put (C := RX6) (T := TX6) (N := 32) (ci := 5) (ws' := (wX6 cI cC cZ h a (va_up (va_up F 3 0) 12 0) G)) S kX6 tyX6 tyX6_ok nmX6 rfl I 0 12 rfl (by decide) (by decide +kernel) rfl rfl (Nat.le_of_ble_eq_true rfl) rfl dX6_read_7 (fun H locs I => ?_)
  refine lv_aload_n S.1 S.2.1 dX6_read_10 rfl (lv_at hl 0 rfl) ?_
  refine lv_iconst (v := 0) S.1 S.2.1 dX6_read_11 (by decide) ?_
  refine x_put (C := RX6) (T := TX6) (N := 32) (ci := 5) (ws' := (wX6 cI cC cZ h a (va_up (va_up (va_up F 3 0) 12 0) 16 0) G)) S kX6 tyX6 tyX6_ok nmX6 rfl I 0 16 rfl (by decide) (by decide +kernel) rfl rfl (Nat.le_of_ble_eq_true rfl) rfl dX6_read_12 (fun H locs I => ?_)
  refine lv_iconst (v := 0) S.1 S.2.1 dX6_read_15 (by decide) ?_
  refine lv_istore_n (lv' := [(1, .int 0), (0, .ref h)]) S.1 S.2.1 dX6_read_16 rfl hl (by decide) rfl (fun ls hl => ?_)
  have hl17 : ∀ (n17 : Nat), ∀ (v1 : Int32) (F2 : xF) (G3 : xG) (H : Heap) (locs : List Loc) (ls : Array Slot), (fX6_read_l17 n17) v1 F2 G3 = some res → xI D A s (wX6 cI cC cZ h a F2 G3) (xT cI cC cZ) H locs → lv_has ls 2 [(1, .int v1), (0, .ref h)] → W p l e (headSpec wsX6_read rmX6_read).room s m args below meth c H locs 0 0 Q (F0 m 17 ls []) := by
    intro n17
    induction n17 with
    | zero =>
      intro v1 F2 G3 H locs ls hf I hl
      cases (fX6_read_l17_z _ _ _).symm.trans hf
    | succ n17 ih17 =>
      intro v1 F2 G3 H locs ls hf I hl
      replace hf := (fX6_read_l17_e _ _ _ _).symm.trans hf
      refine lv_iload_n S.1 S.2.1 dX6_read_17 rfl (lv_at hl 0 rfl) ?_
      refine lv_aload_n S.1 S.2.1 dX6_read_18 rfl (lv_at hl 1 rfl) ?_
      refine x_get (C := RX6) (T := TX6) (N := 32) (ci := 5) (v := .int (F2 1)) S kX6 rfl I 0 1 rfl (by decide) (by decide +kernel) rfl dX6_read_19 ?_
      refine lv_icmp_ge (tgt := 44) S.1 S.2.1 dX6_read_22 (by decide) (fun c4 => ?_) (fun c4 => ?_)
      · replace hf := x_ifT hf c4
        refine lv_iload_n S.1 S.2.1 dX6_read_44 rfl (lv_at hl 0 rfl) ?_
        exact x_ri E rfl rfl hf rfl I rfl dX6_read_45
      · replace hf := x_ifF hf c4
        refine lv_aload_n S.1 S.2.1 dX6_read_25 rfl (lv_at hl 1 rfl) ?_
        refine lv_aload_n S.1 S.2.1 dX6_read_26 rfl (lv_at hl 1 rfl) ?_
        refine x_get (C := RX6) (T := TX6) (N := 32) (ci := 5) (v := .ref (a 2)) S kX6 rfl I 0 2 rfl (by decide) (by decide +kernel) rfl dX6_read_27 ?_
        refine lv_iload_n S.1 S.2.1 dX6_read_30 rfl (lv_at hl 0 rfl) ?_
        obtain ⟨hi5, hf⟩ := x_ldE hf
        refine x_cald (f := (G3 2)) S I 1 1 rfl rfl hi5 dX6_read_31 ?_
        obtain ⟨r7, F8, G9, hg6, hf⟩ := x_b3E hf
        refine x_cA (As := [.int ((G3 2) v1.toNatClampNeg)]) (rest := []) (st' := [.int r7]) (ws' := (wX6 cI cC cZ h a F8 G9)) S I (tX6_goesOn l D cI cC cZ h a F2 G3 ((G3 2) v1.toNatClampNeg) (r7, F8, G9) hg6) (cwV 1 S.2.2.2.2 gX6_read_X6_goesOn rfl rfl rfl (by decide +kernel) ⟨Nat.le_of_ble_eq_true rfl, Nat.le_of_ble_eq_true rfl⟩) 0 5 rfl rfl rfl rfl hl rfl (Nat.le_of_ble_eq_true rfl) ⟨Nat.zero_le _, Nat.zero_le _⟩ rfl dX6_read_32 (fun H locs I => ?_)
        refine lv_if_eq (tgt := 44) S.1 S.2.1 dX6_read_35 (by decide) (fun c10 => ?_) (fun c10 => ?_)
        · replace hf := x_ifT hf c10
          refine lv_iload_n S.1 S.2.1 dX6_read_44 rfl (lv_at hl 0 rfl) ?_
          exact x_ri E rfl rfl hf rfl I rfl dX6_read_45
        · replace hf := x_ifF hf c10
          refine lv_iinc (v := (v1 + 1)) (lv' := [(1, .int (v1 + 1)), (0, .ref h)]) S.1 S.2.1 dX6_read_38 hl (k := 0) rfl rfl (by decide) rfl (fun ls hl => ?_)
          refine lv_goto (tgt := 17) S.1 S.2.1 dX6_read_41 (by decide) ?_
          exact ih17 (v1 + 1) F8 G9 _ _ _ hf I (lv_sub hl [0, 1] rfl)
  exact hl17 4096 0 (va_up (va_up (va_up F 3 0) 12 0) 16 0) G _ _ _ hf I (lv_sub hl [0, 1] rfl)
set_option maxHeartbeats 4000000 in
set_option maxRecDepth 100000 in
theorem tX6_isFormula (l : Launch) (D : va_G) (cI cC cZ : ClassId) (h : Nat) (a : Nat → Nat) (F : xF) (G : xG) (res : Int32 × xF × xG) (hf : fX6_isFormula F G = some res) : xC l yX6_isFormula wsX6_isFormula rmX6_isFormula D [.ref h] (wX6 cI cC cZ h a F G) (fun t => (wX6 cI cC cZ h a t.2.1 t.2.2)) (xT cI cC cZ) (fun t => some (.int t.1)) res := by
  have kX6 : ∀ w ∈ u_ws RX6 TX6 32, w ∈ wsX6_isFormula := by decide +kernel
  refine x_of (cc := cX6_isFormula) (maxL := 1) (ret := (some .boolean)) (by decide) rfl (Nat.le_of_ble_eq_true rfl) ?_
  intro p e s m args below meth c A Q ls S I E hl
  replace hl : lv_has ls 1 [(0, .ref h)] := hl
  replace hf := (fX6_isFormula_e _ _).symm.trans hf
  refine lv_aload_n S.1 S.2.1 dX6_isFormula_0 rfl (lv_at hl 0 rfl) ?_
  obtain ⟨r2, F3, G4, hg1, hf⟩ := x_b3E hf
  refine x_cA (As := []) (rest := []) (st' := [.int r2]) (ws' := (wX6 cI cC cZ h a F3 G4)) S I (tX6_read l D cI cC cZ h a F G (r2, F3, G4) hg1) (cwV 0 S.2.2.2.2 gX6_isFormula_X6_read rfl rfl rfl (by decide +kernel) ⟨Nat.le_of_ble_eq_true rfl, Nat.le_of_ble_eq_true rfl⟩) 0 5 rfl rfl rfl rfl hl rfl (Nat.le_of_ble_eq_true rfl) ⟨Nat.zero_le _, Nat.zero_le _⟩ rfl dX6_isFormula_1 (fun H locs I => ?_)
  refine lv_aload_n S.1 S.2.1 dX6_isFormula_4 rfl (lv_at hl 0 rfl) ?_
  refine x_get (C := RX6) (T := TX6) (N := 32) (ci := 5) (v := .int (F3 1)) S kX6 rfl I 0 1 rfl (by decide) (by decide +kernel) rfl dX6_isFormula_5 ?_
  refine lv_icmp_ne (tgt := 24) S.1 S.2.1 dX6_isFormula_8 (by decide) (fun c5 => ?_) (fun c5 => ?_)
  · replace hf := x_ifF hf c5
    refine lv_iconst (v := 0) S.1 S.2.1 dX6_isFormula_24 (by decide) ?_
    exact x_ri E rfl x_n0 hf rfl I rfl dX6_isFormula_25
  · replace hf := x_ifT hf c5
    refine lv_aload_n S.1 S.2.1 dX6_isFormula_11 rfl (lv_at hl 0 rfl) ?_
    refine x_get (C := RX6) (T := TX6) (N := 32) (ci := 5) (v := .int (F3 16)) S kX6 rfl I 0 16 rfl (by decide) (by decide +kernel) rfl dX6_isFormula_12 ?_
    refine lv_bipush (v := 8) S.1 S.2.1 dX6_isFormula_15 (by decide) ?_
    refine lv_icmp_ne (tgt := 24) S.1 S.2.1 dX6_isFormula_17 (by decide) (fun c6 => ?_) (fun c6 => ?_)
    · replace hf := x_ifF hf c6
      refine lv_iconst (v := 0) S.1 S.2.1 dX6_isFormula_24 (by decide) ?_
      exact x_ri E rfl x_n0 hf rfl I rfl dX6_isFormula_25
    · replace hf := x_ifT hf c6
      refine lv_iconst (v := 1) S.1 S.2.1 dX6_isFormula_20 (by decide) ?_
      refine lv_goto (tgt := 25) S.1 S.2.1 dX6_isFormula_21 (by decide) ?_
      exact x_ri E rfl x_n1 hf rfl I rfl dX6_isFormula_25
set_option maxHeartbeats 4000000 in
set_option maxRecDepth 100000 in
theorem tX6_fault (l : Launch) (D : va_G) (cI cC cZ : ClassId) (h : Nat) (a : Nat → Nat) (F : xF) (G : xG) (res : Int32 × xF × xG) (hf : fX6_fault F G = some res) : xC l yX6_fault wsX6_fault rmX6_fault D [.ref h] (wX6 cI cC cZ h a F G) (fun t => (wX6 cI cC cZ h a t.2.1 t.2.2)) (xT cI cC cZ) (fun t => some (.int t.1)) res := by
  have kX6 : ∀ w ∈ u_ws RX6 TX6 32, w ∈ wsX6_fault := by decide +kernel
  refine x_of (cc := cX6_fault) (maxL := 1) (ret := (some .int)) (by decide) rfl (Nat.le_of_ble_eq_true rfl) ?_
  intro p e s m args below meth c A Q ls S I E hl
  replace hl : lv_has ls 1 [(0, .ref h)] := hl
  replace hf := (fX6_fault_e _ _).symm.trans hf
  refine lv_aload_n S.1 S.2.1 dX6_fault_0 rfl (lv_at hl 0 rfl) ?_
  refine lv_iconst (v := 0) S.1 S.2.1 dX6_fault_1 (by decide) ?_
  refine x_put (C := RX6) (T := TX6) (N := 32) (ci := 5) (ws' := (wX6 cI cC cZ h a (va_up F 0 0) G)) S kX6 tyX6 tyX6_ok nmX6 rfl I 0 0 rfl (by decide) (by decide +kernel) rfl rfl (Nat.le_of_ble_eq_true rfl) rfl dX6_fault_2 (fun H locs I => ?_)
  refine lv_aload_n S.1 S.2.1 dX6_fault_5 rfl (lv_at hl 0 rfl) ?_
  obtain ⟨r2, F3, G4, hg1, hf⟩ := x_b3E hf
  refine x_cA (As := []) (rest := []) (st' := [.int r2]) (ws' := (wX6 cI cC cZ h a F3 G4)) S I (tX6_read l D cI cC cZ h a (va_up F 0 0) G (r2, F3, G4) hg1) (cwV 0 S.2.2.2.2 gX6_fault_X6_read rfl rfl rfl (by decide +kernel) ⟨Nat.le_of_ble_eq_true rfl, Nat.le_of_ble_eq_true rfl⟩) 0 5 rfl rfl rfl rfl hl rfl (Nat.le_of_ble_eq_true rfl) ⟨Nat.zero_le _, Nat.zero_le _⟩ rfl dX6_fault_6 (fun H locs I => ?_)
  exact x_ri E rfl rfl hf rfl I rfl dX6_fault_9
set_option maxHeartbeats 4000000 in
set_option maxRecDepth 100000 in
theorem tX6_sigma (l : Launch) (D : va_G) (cI cC cZ : ClassId) (h : Nat) (a : Nat → Nat) (F : xF) (G : xG) (res : Int32 × xF × xG) (hf : fX6_sigma F G = some res) : xC l yX6_sigma wsX6_sigma rmX6_sigma D [.ref h] (wX6 cI cC cZ h a F G) (fun t => (wX6 cI cC cZ h a t.2.1 t.2.2)) (xT cI cC cZ) (fun t => some (.int t.1)) res := by
  have kX6 : ∀ w ∈ u_ws RX6 TX6 32, w ∈ wsX6_sigma := by decide +kernel
  refine x_of (cc := cX6_sigma) (maxL := 1) (ret := (some .int)) (by decide) rfl (Nat.le_of_ble_eq_true rfl) ?_
  intro p e s m args below meth c A Q ls S I E hl
  replace hl : lv_has ls 1 [(0, .ref h)] := hl
  replace hf := (fX6_sigma_e _ _).symm.trans hf
  refine lv_aload_n S.1 S.2.1 dX6_sigma_0 rfl (lv_at hl 0 rfl) ?_
  refine lv_iconst (v := 0) S.1 S.2.1 dX6_sigma_1 (by decide) ?_
  refine x_put (C := RX6) (T := TX6) (N := 32) (ci := 5) (ws' := (wX6 cI cC cZ h a (va_up F 0 0) G)) S kX6 tyX6 tyX6_ok nmX6 rfl I 0 0 rfl (by decide) (by decide +kernel) rfl rfl (Nat.le_of_ble_eq_true rfl) rfl dX6_sigma_2 (fun H locs I => ?_)
  refine lv_aload_n S.1 S.2.1 dX6_sigma_5 rfl (lv_at hl 0 rfl) ?_
  obtain ⟨r2, F3, G4, hg1, hf⟩ := x_b3E hf
  refine x_cA (As := []) (rest := []) (st' := [.int r2]) (ws' := (wX6 cI cC cZ h a F3 G4)) S I (tX6_isFormula l D cI cC cZ h a (va_up F 0 0) G (r2, F3, G4) hg1) (cwV 0 S.2.2.2.2 gX6_sigma_X6_isFormula rfl rfl rfl (by decide +kernel) ⟨Nat.le_of_ble_eq_true rfl, Nat.le_of_ble_eq_true rfl⟩) 0 5 rfl rfl rfl rfl hl rfl (Nat.le_of_ble_eq_true rfl) ⟨Nat.zero_le _, Nat.zero_le _⟩ rfl dX6_sigma_6 (fun H locs I => ?_)
  refine lv_if_eq (tgt := 26) S.1 S.2.1 dX6_sigma_9 (by decide) (fun c5 => ?_) (fun c5 => ?_)
  · replace hf := x_ifT hf c5
    refine lv_iconst (v := (-1)) S.1 S.2.1 dX6_sigma_26 (by decide) ?_
    exact x_ri E rfl rfl hf rfl I rfl dX6_sigma_27
  · replace hf := x_ifF hf c5
    refine lv_aload_n S.1 S.2.1 dX6_sigma_12 rfl (lv_at hl 0 rfl) ?_
    refine x_get (C := RX6) (T := TX6) (N := 32) (ci := 5) (v := .ref (a 9)) S kX6 rfl I 0 9 rfl (by decide) (by decide +kernel) rfl dX6_sigma_13 ?_
    refine lv_aload_n S.1 S.2.1 dX6_sigma_16 rfl (lv_at hl 0 rfl) ?_
    refine x_get (C := RX6) (T := TX6) (N := 32) (ci := 5) (v := .int (F3 3)) S kX6 rfl I 0 3 rfl (by decide) (by decide +kernel) rfl dX6_sigma_17 ?_
    refine lv_iconst (v := 1) S.1 S.2.1 dX6_sigma_20 (by decide) ?_
    refine lv_isub S.1 S.2.1 dX6_sigma_21 ?_
    obtain ⟨hi6, hf⟩ := x_ldE hf
    refine x_iald (f := (G4 9)) S I 7 0 rfl rfl hi6 dX6_sigma_22 ?_
    refine lv_goto (tgt := 27) S.1 S.2.1 dX6_sigma_23 (by decide) ?_
    exact x_ri E rfl rfl hf rfl I rfl dX6_sigma_27
