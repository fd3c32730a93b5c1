set_option maxHeartbeats 4000000 in
set_option maxRecDepth 100000 in
theorem tX6_prove (l : Launch) (D : va_G) (cI cC cZ : ClassId) (h : Nat) (a : Nat → Nat) (F : xF) (G : xG) (p1 p2 : Int32) (res : Int32 × xG) (hf : fX6_prove F G p1 p2 = some res) : xC l yX6_prove wsX6_prove rmX6_prove D [.ref h, .int p1, .int p2] (wX6 cI cC cZ h a F G) (fun t => (wX6 cI cC cZ h a F t.2)) (xT cI cC cZ) (fun t => some (.int t.1)) res := by
  have kX6 : ∀ w ∈ u_ws RX6 TX6 32, w ∈ wsX6_prove := by decide +kernel
  refine x_of (cc := cX6_prove) (maxL := 8) (ret := (some .int)) (by decide) rfl (Nat.le_of_ble_eq_true rfl) ?_
  intro p e s m args below meth c A Q ls S I E hl
  replace hl : lv_has ls 8 [(0, .ref h), (1, .int p1), (2, .int p2)] := hl
  replace hf := (fX6_prove_e _ _ _ _).symm.trans hf
  refine lv_iload_n S.1 S.2.1 dX6_prove_0 rfl (lv_at hl 1 rfl) ?_
  refine lv_istore_n (lv' := [(3, .int p1), (0, .ref h), (1, .int p1), (2, .int p2)]) S.1 S.2.1 dX6_prove_1 rfl hl (by decide) rfl (fun ls hl => ?_)
  refine lv_iconst (v := 0) S.1 S.2.1 dX6_prove_2 (by decide) ?_
  refine lv_istore (lv' := [(4, .int 0), (3, .int p1), (0, .ref h), (1, .int p1), (2, .int p2)]) S.1 S.2.1 dX6_prove_3 hl (by decide) rfl (fun ls hl => ?_)
  have hx48 : ∀ (v1 : Int32) (G2 : xG) (H : Heap) (locs : List Loc) (ls : Array Slot), (fX6_prove_x48 p2) v1 G2 = some res → xI D A s (wX6 cI cC cZ h a F G2) (xT cI cC cZ) H locs → lv_has ls 8 [(4, .int v1), (0, .ref h), (2, .int p2)] → W p l e (headSpec wsX6_prove rmX6_prove).room s m args below meth c H locs 0 0 Q (F0 m 48 ls []) := by
    intro v1 G2 H locs ls hf I hl
    replace hf := (fX6_prove_x48_e _ _ _).symm.trans hf
    refine lv_iconst (v := 1) S.1 S.2.1 dX6_prove_48 (by decide) ?_
    refine lv_iload_n S.1 S.2.1 dX6_prove_49 rfl (lv_at hl 2 rfl) ?_
    refine lv_ishl S.1 S.2.1 dX6_prove_50 ?_
    refine lv_istore (lv' := [(5, .int (x_shl 1 p2)), (4, .int v1), (0, .ref h), (2, .int p2)]) S.1 S.2.1 dX6_prove_51 hl (by decide) rfl (fun ls hl => ?_)
    refine lv_iload S.1 S.2.1 dX6_prove_53 (lv_at hl 1 rfl) ?_
    refine lv_iconst (v := 1) S.1 S.2.1 dX6_prove_55 (by decide) ?_
    refine lv_isub S.1 S.2.1 dX6_prove_56 ?_
    refine lv_istore (lv' := [(6, .int (v1 - 1)), (5, .int (x_shl 1 p2)), (4, .int v1), (0, .ref h), (2, .int p2)]) S.1 S.2.1 dX6_prove_57 hl (by decide) rfl (fun ls hl => ?_)
    have hx147 : ∀ (G3 : xG) (H : Heap) (locs : List Loc) (ls : Array Slot), (fX6_prove_x147 v1) G3 = some res → xI D A s (wX6 cI cC cZ h a F G3) (xT cI cC cZ) H locs → lv_has ls 8 [(4, .int v1), (0, .ref h)] → W p l e (headSpec wsX6_prove rmX6_prove).room s m args below meth c H locs 0 0 Q (F0 m 147 ls []) := by
      intro G3 H locs ls hf I hl
      replace hf := (fX6_prove_x147_e _ _).symm.trans hf
      refine lv_iconst (v := 0) S.1 S.2.1 dX6_prove_147 (by decide) ?_
      refine lv_istore (lv' := [(6, .int 0), (4, .int v1), (0, .ref h)]) S.1 S.2.1 dX6_prove_148 hl (by decide) rfl (fun ls hl => ?_)
      refine lv_iconst (v := 0) S.1 S.2.1 dX6_prove_150 (by decide) ?_
      refine lv_istore (lv' := [(7, .int 0), (6, .int 0), (4, .int v1), (0, .ref h)]) S.1 S.2.1 dX6_prove_151 hl (by decide) rfl (fun ls hl => ?_)
      have hl153 : ∀ (n153 : Nat), ∀ (v4 : Int32) (v5 : Int32) (G6 : xG) (H : Heap) (locs : List Loc) (ls : Array Slot), (fX6_prove_l153 v1 n153) v4 v5 G6 = some res → xI D A s (wX6 cI cC cZ h a F G6) (xT cI cC cZ) H locs → lv_has ls 8 [(7, .int v5), (6, .int v4), (4, .int v1), (0, .ref h)] → W p l e (headSpec wsX6_prove rmX6_prove).room s m args below meth c H locs 0 0 Q (F0 m 153 ls []) := by
        intro n153
        induction n153 with
        | zero =>
          intro v4 v5 G6 H locs ls hf I hl
          cases (fX6_prove_l153_z _ _ _ _).symm.trans hf
        | succ n153 ih153 =>
          intro v4 v5 G6 H locs ls hf I hl
          replace hf := (fX6_prove_l153_e _ _ _ _ _).symm.trans hf
          refine lv_iload S.1 S.2.1 dX6_prove_153 (lv_at hl 0 rfl) ?_
          refine lv_iload S.1 S.2.1 dX6_prove_155 (lv_at hl 2 rfl) ?_
          refine lv_icmp_ge (tgt := 194) S.1 S.2.1 dX6_prove_157 (by decide) (fun c7 => ?_) (fun c7 => ?_)
          · replace hf := x_ifT hf c7
            refine lv_iload S.1 S.2.1 dX6_prove_194 (lv_at hl 1 rfl) ?_
            exact x_ri E rfl rfl hf rfl I rfl dX6_prove_196
          · replace hf := x_ifF hf c7
            refine lv_aload_n S.1 S.2.1 dX6_prove_160 rfl (lv_at hl 3 rfl) ?_
            refine x_get (C := RX6) (T := TX6) (N := 32) (ci := 5) (v := .ref (a 26)) S kX6 rfl I 0 26 rfl (by decide) (by decide +kernel) rfl dX6_prove_161 ?_
            refine lv_iload S.1 S.2.1 dX6_prove_164 (lv_at hl 0 rfl) ?_
            obtain ⟨hi8, hf⟩ := x_ldE hf
            refine x_iald (f := (G6 26)) S I 19 0 rfl rfl hi8 dX6_prove_166 ?_
            refine lv_iconst (v := (-1)) S.1 S.2.1 dX6_prove_167 (by decide) ?_
            have hj188 : ∀ (v9 : Int32) (G10 : xG) (H : Heap) (locs : List Loc) (ls : Array Slot), (fX6_prove_j188 (fX6_prove_l153 v1 n153) v5) v9 G10 = some res → xI D A s (wX6 cI cC cZ h a F G10) (xT cI cC cZ) H locs → lv_has ls 8 [(7, .int v5), (6, .int v9), (4, .int v1), (0, .ref h)] → W p l e (headSpec wsX6_prove rmX6_prove).room s m args below meth c H locs 0 0 Q (F0 m 188 ls []) := by
              intro v9 G10 H locs ls hf I hl
              replace hf := (fX6_prove_j188_e _ _ _ _).symm.trans hf
              refine lv_iinc (v := (v5 + 1)) (lv' := [(7, .int (v5 + 1)), (6, .int v9), (4, .int v1), (0, .ref h)]) S.1 S.2.1 dX6_prove_188 hl (k := 0) rfl rfl (by decide) rfl (fun ls hl => ?_)
              refine lv_goto (tgt := 153) S.1 S.2.1 dX6_prove_191 (by decide) ?_
              exact ih153 v9 (v5 + 1) G10 _ _ _ hf I (lv_sub hl [0, 1, 2, 3] rfl)
            refine lv_icmp_eq (tgt := 188) S.1 S.2.1 dX6_prove_168 (by decide) (fun c11 => ?_) (fun c11 => ?_)
            · replace hf := x_ifT hf c11
              exact hj188 v4 G6 _ _ _ hf I (lv_sub hl [0, 1, 2, 3] rfl)
            · replace hf := x_ifF hf c11
              refine lv_aload_n S.1 S.2.1 dX6_prove_171 rfl (lv_at hl 3 rfl) ?_
              refine x_get (C := RX6) (T := TX6) (N := 32) (ci := 5) (v := .ref (a 26)) S kX6 rfl I 0 26 rfl (by decide) (by decide +kernel) rfl dX6_prove_172 ?_
              refine lv_iload S.1 S.2.1 dX6_prove_175 (lv_at hl 1 rfl) ?_
              refine lv_aload_n S.1 S.2.1 dX6_prove_177 rfl (lv_at hl 3 rfl) ?_
              refine x_get (C := RX6) (T := TX6) (N := 32) (ci := 5) (v := .ref (a 26)) S kX6 rfl I 0 26 rfl (by decide) (by decide +kernel) rfl dX6_prove_178 ?_
              refine lv_iload S.1 S.2.1 dX6_prove_181 (lv_at hl 0 rfl) ?_
              obtain ⟨hi12, hf⟩ := x_ldE hf
              refine x_iald (f := (G6 26)) S I 19 0 rfl rfl hi12 dX6_prove_183 ?_
              obtain ⟨hi13, hf⟩ := x_ldE hf
              refine x_iast (f := (G6 26)) (ws' := (wX6 cI cC cZ h a F (va_up G6 26 (upd (G6 26) v4.toNatClampNeg ((G6 26) v5.toNatClampNeg))))) S I 19 0 rfl rfl hi13 rfl dX6_prove_184 (fun H locs I => ?_)
              refine lv_iinc (v := (v4 + 1)) (lv' := [(6, .int (v4 + 1)), (7, .int v5), (4, .int v1), (0, .ref h)]) S.1 S.2.1 dX6_prove_185 hl (k := 1) rfl rfl (by decide) rfl (fun ls hl => ?_)
              exact hj188 (v4 + 1) (va_up G6 26 (upd (G6 26) v4.toNatClampNeg ((G6 26) v5.toNatClampNeg))) _ _ _ hf I (lv_sub hl [1, 0, 2, 3] rfl)
      exact hl153 4096 0 0 G3 _ _ _ hf I (lv_sub hl [0, 1, 2, 3] rfl)
    have hl59 : ∀ (n59 : Nat), ∀ (v14 : Int32) (v15 : Int32) (G16 : xG) (H : Heap) (locs : List Loc) (ls : Array Slot), (fX6_prove_l59 v1 n59) v14 v15 G16 = some res → xI D A s (wX6 cI cC cZ h a F G16) (xT cI cC cZ) H locs → lv_has ls 8 [(6, .int v15), (5, .int v14), (4, .int v1), (0, .ref h)] → W p l e (headSpec wsX6_prove rmX6_prove).room s m args below meth c H locs 0 0 Q (F0 m 59 ls []) := by
      intro n59
      induction n59 with
      | zero =>
        intro v14 v15 G16 H locs ls hf I hl
        cases (fX6_prove_l59_z _ _ _ _).symm.trans hf
      | succ n59 ih59 =>
        intro v14 v15 G16 H locs ls hf I hl
        replace hf := (fX6_prove_l59_e _ _ _ _ _).symm.trans hf
        refine lv_iload S.1 S.2.1 dX6_prove_59 (lv_at hl 0 rfl) ?_
        refine lv_if_lt (tgt := 147) S.1 S.2.1 dX6_prove_61 (by decide) (fun c17 => ?_) (fun c17 => ?_)
        · replace hf := x_ifT hf c17
          exact hx147 G16 _ _ _ hf I (lv_sub hl [2, 3] rfl)
        · replace hf := x_ifF hf c17
          refine lv_iload S.1 S.2.1 dX6_prove_64 (lv_at hl 1 rfl) ?_
          refine lv_aload_n S.1 S.2.1 dX6_prove_66 rfl (lv_at hl 3 rfl) ?_
          refine x_get (C := RX6) (T := TX6) (N := 32) (ci := 5) (v := .ref (a 23)) S kX6 rfl I 0 23 rfl (by decide) (by decide +kernel) rfl dX6_prove_67 ?_
          refine lv_aload_n S.1 S.2.1 dX6_prove_70 rfl (lv_at hl 3 rfl) ?_
          refine x_get (C := RX6) (T := TX6) (N := 32) (ci := 5) (v := .ref (a 26)) S kX6 rfl I 0 26 rfl (by decide) (by decide +kernel) rfl dX6_prove_71 ?_
          refine lv_iload S.1 S.2.1 dX6_prove_74 (lv_at hl 0 rfl) ?_
          obtain ⟨hi18, hf⟩ := x_ldE hf
          refine x_iald (f := (G16 26)) S I 19 0 rfl rfl hi18 dX6_prove_76 ?_
          obtain ⟨hi19, hf⟩ := x_ldE hf
          refine x_iald (f := (G16 23)) S I 17 0 rfl rfl hi19 dX6_prove_77 ?_
          refine lv_ishr S.1 S.2.1 dX6_prove_78 ?_
          refine lv_iconst (v := 1) S.1 S.2.1 dX6_prove_79 (by decide) ?_
          refine lv_iand S.1 S.2.1 dX6_prove_80 ?_
          refine lv_iconst (v := 1) S.1 S.2.1 dX6_prove_81 (by decide) ?_
          have hj90 : ∀ (v20 : Int32) (H : Heap) (locs : List Loc) (ls : Array Slot), (fX6_prove_j90 (fX6_prove_l59 v1 n59) G16 v15 v14) v20 = some res → xI D A s (wX6 cI cC cZ h a F G16) (xT cI cC cZ) H locs → lv_has ls 8 [(6, .int v15), (5, .int v14), (4, .int v1), (0, .ref h)] → W p l e (headSpec wsX6_prove rmX6_prove).room s m args below meth c H locs 0 0 Q (F0 m 90 ls [.int v20]) := by
            intro v20 H locs ls hf I hl
            replace hf := (fX6_prove_j90_e _ _ _ _ _).symm.trans hf
            refine lv_istore (lv' := [(7, .int v20), (6, .int v15), (5, .int v14), (4, .int v1), (0, .ref h)]) S.1 S.2.1 dX6_prove_90 hl (by decide) rfl (fun ls hl => ?_)
            refine lv_iload S.1 S.2.1 dX6_prove_92 (lv_at hl 2 rfl) ?_
            refine lv_iload S.1 S.2.1 dX6_prove_94 (lv_at hl 0 rfl) ?_
            have hj115 : ∀ (v21 : Int32) (H : Heap) (locs : List Loc) (ls : Array Slot), (fX6_prove_j115 (fX6_prove_l59 v1 n59) G16 v20 v15 v14) v21 = some res → xI D A s (wX6 cI cC cZ h a F G16) (xT cI cC cZ) H locs → lv_has ls 8 [(7, .int v20), (6, .int v15), (4, .int v1), (0, .ref h)] → W p l e (headSpec wsX6_prove rmX6_prove).room s m args below meth c H locs 0 0 Q (F0 m 115 ls [.int v21, .int v14]) := by
              intro v21 H locs ls hf I hl
              replace hf := (fX6_prove_j115_e _ _ _ _ _ _).symm.trans hf
              refine lv_ior S.1 S.2.1 dX6_prove_115 ?_
              refine lv_istore (lv' := [(5, .int (v14 ||| v21)), (7, .int v20), (6, .int v15), (4, .int v1), (0, .ref h)]) S.1 S.2.1 dX6_prove_116 hl (by decide) rfl (fun ls hl => ?_)
              refine lv_aload_n S.1 S.2.1 dX6_prove_118 rfl (lv_at hl 4 rfl) ?_
              refine x_get (C := RX6) (T := TX6) (N := 32) (ci := 5) (v := .ref (a 26)) S kX6 rfl I 0 26 rfl (by decide) (by decide +kernel) rfl dX6_prove_119 ?_
              refine lv_iload S.1 S.2.1 dX6_prove_122 (lv_at hl 2 rfl) ?_
              refine lv_iload S.1 S.2.1 dX6_prove_124 (lv_at hl 1 rfl) ?_
              have hj140 : ∀ (v22 : Int32) (H : Heap) (locs : List Loc) (ls : Array Slot), (fX6_prove_j140 (fX6_prove_l59 v1 n59) G16 v15 v14 v21) v22 = some res → xI D A s (wX6 cI cC cZ h a F G16) (xT cI cC cZ) H locs → lv_has ls 8 [(5, .int (v14 ||| v21)), (6, .int v15), (4, .int v1), (0, .ref h)] → W p l e (headSpec wsX6_prove rmX6_prove).room s m args below meth c H locs 0 0 Q (F0 m 140 ls [.int v22, .int v15, .ref (a 26)]) := by
                intro v22 H locs ls hf I hl
                replace hf := (fX6_prove_j140_e _ _ _ _ _ _).symm.trans hf
                obtain ⟨hi23, hf⟩ := x_ldE hf
                refine x_iast (f := (G16 26)) (ws' := (wX6 cI cC cZ h a F (va_up G16 26 (upd (G16 26) v15.toNatClampNeg v22)))) S I 19 0 rfl rfl hi23 rfl dX6_prove_140 (fun H locs I => ?_)
                refine lv_iinc (v := (v15 + (-1))) (lv' := [(6, .int (v15 + (-1))), (5, .int (v14 ||| v21)), (4, .int v1), (0, .ref h)]) S.1 S.2.1 dX6_prove_141 hl (k := 1) rfl rfl (by decide) rfl (fun ls hl => ?_)
                refine lv_goto (tgt := 59) S.1 S.2.1 dX6_prove_144 (by decide) ?_
                exact ih59 (v14 ||| v21) (v15 + (-1)) (va_up G16 26 (upd (G16 26) v15.toNatClampNeg v22)) _ _ _ hf I (lv_sub hl [0, 1, 2, 3] rfl)
              refine lv_if_eq (tgt := 139) S.1 S.2.1 dX6_prove_126 (by decide) (fun c24 => ?_) (fun c24 => ?_)
              · replace hf := x_ifT hf c24
                refine lv_iconst (v := (-1)) S.1 S.2.1 dX6_prove_139 (by decide) ?_
                exact hj140 (-1) _ _ _ hf I (lv_sub hl [0, 2, 3, 4] rfl)
              · replace hf := x_ifF hf c24
                refine lv_aload_n S.1 S.2.1 dX6_prove_129 rfl (lv_at hl 4 rfl) ?_
                refine x_get (C := RX6) (T := TX6) (N := 32) (ci := 5) (v := .ref (a 26)) S kX6 rfl I 0 26 rfl (by decide) (by decide +kernel) rfl dX6_prove_130 ?_
                refine lv_iload S.1 S.2.1 dX6_prove_133 (lv_at hl 2 rfl) ?_
                obtain ⟨hi25, hf⟩ := x_ldE hf
                refine x_iald (f := (G16 26)) S I 19 0 rfl rfl hi25 dX6_prove_135 ?_
                refine lv_goto (tgt := 140) S.1 S.2.1 dX6_prove_136 (by decide) ?_
                exact hj140 ((G16 26) v15.toNatClampNeg) _ _ _ hf I (lv_sub hl [0, 2, 3, 4] rfl)
            refine lv_if_eq (tgt := 114) S.1 S.2.1 dX6_prove_96 (by decide) (fun c26 => ?_) (fun c26 => ?_)
            · replace hf := x_ifT hf c26
              refine lv_iconst (v := 0) S.1 S.2.1 dX6_prove_114 (by decide) ?_
              exact hj115 0 _ _ _ hf I (lv_sub hl [0, 1, 3, 4] rfl)
            · replace hf := x_ifF hf c26
              refine lv_aload_n S.1 S.2.1 dX6_prove_99 rfl (lv_at hl 4 rfl) ?_
              refine x_get (C := RX6) (T := TX6) (N := 32) (ci := 5) (v := .ref (a 22)) S kX6 rfl I 0 22 rfl (by decide) (by decide +kernel) rfl dX6_prove_100 ?_
              refine lv_aload_n S.1 S.2.1 dX6_prove_103 rfl (lv_at hl 4 rfl) ?_
              refine x_get (C := RX6) (T := TX6) (N := 32) (ci := 5) (v := .ref (a 26)) S kX6 rfl I 0 26 rfl (by decide) (by decide +kernel) rfl dX6_prove_104 ?_
              refine lv_iload S.1 S.2.1 dX6_prove_107 (lv_at hl 1 rfl) ?_
              obtain ⟨hi27, hf⟩ := x_ldE hf
              refine x_iald (f := (G16 26)) S I 19 0 rfl rfl hi27 dX6_prove_109 ?_
              obtain ⟨hi28, hf⟩ := x_ldE hf
              refine x_iald (f := (G16 22)) S I 16 0 rfl rfl hi28 dX6_prove_110 ?_
              refine lv_goto (tgt := 115) S.1 S.2.1 dX6_prove_111 (by decide) ?_
              exact hj115 ((G16 22) ((G16 26) v15.toNatClampNeg).toNatClampNeg) _ _ _ hf I (lv_sub hl [0, 1, 3, 4] rfl)
          refine lv_icmp_ne (tgt := 89) S.1 S.2.1 dX6_prove_82 (by decide) (fun c29 => ?_) (fun c29 => ?_)
          · replace hf := x_ifF hf c29
            refine lv_iconst (v := 0) S.1 S.2.1 dX6_prove_89 (by decide) ?_
            exact hj90 0 _ _ _ hf I (lv_sub hl [0, 1, 2, 3] rfl)
          · replace hf := x_ifT hf c29
            refine lv_iconst (v := 1) S.1 S.2.1 dX6_prove_85 (by decide) ?_
            refine lv_goto (tgt := 90) S.1 S.2.1 dX6_prove_86 (by decide) ?_
            exact hj90 1 _ _ _ hf I (lv_sub hl [0, 1, 2, 3] rfl)
    exact hl59 4096 (x_shl 1 p2) (v1 - 1) G2 _ _ _ hf I (lv_sub hl [0, 1, 2, 3] rfl)
  have hl5 : ∀ (n5 : Nat), ∀ (v30 : Int32) (v31 : Int32) (G32 : xG) (H : Heap) (locs : List Loc) (ls : Array Slot), (fX6_prove_l5 F p2 n5) v30 v31 G32 = some res → xI D A s (wX6 cI cC cZ h a F G32) (xT cI cC cZ) H locs → lv_has ls 8 [(4, .int v31), (3, .int v30), (0, .ref h), (2, .int p2)] → W p l e (headSpec wsX6_prove rmX6_prove).room s m args below meth c H locs 0 0 Q (F0 m 5 ls []) := by
    intro n5
    induction n5 with
    | zero =>
      intro v30 v31 G32 H locs ls hf I hl
      cases (fX6_prove_l5_z _ _ _ _ _).symm.trans hf
    | succ n5 ih5 =>
      intro v30 v31 G32 H locs ls hf I hl
      replace hf := (fX6_prove_l5_e _ _ _ _ _ _).symm.trans hf
      refine lv_iload_n S.1 S.2.1 dX6_prove_5 rfl (lv_at hl 1 rfl) ?_
      refine lv_iload_n S.1 S.2.1 dX6_prove_6 rfl (lv_at hl 3 rfl) ?_
      refine lv_ishr S.1 S.2.1 dX6_prove_7 ?_
      refine lv_iconst (v := 1) S.1 S.2.1 dX6_prove_8 (by decide) ?_
      refine lv_iand S.1 S.2.1 dX6_prove_9 ?_
      refine lv_if_ne (tgt := 48) S.1 S.2.1 dX6_prove_10 (by decide) (fun c33 => ?_) (fun c33 => ?_)
      · replace hf := x_ifF hf c33
        exact hx48 v31 G32 _ _ _ hf I (lv_sub hl [0, 2, 3] rfl)
      · replace hf := x_ifT hf c33
        refine lv_aload_n S.1 S.2.1 dX6_prove_13 rfl (lv_at hl 2 rfl) ?_
        refine x_get (C := RX6) (T := TX6) (N := 32) (ci := 5) (v := .ref (a 26)) S kX6 rfl I 0 26 rfl (by decide) (by decide +kernel) rfl dX6_prove_14 ?_
        refine lv_iload S.1 S.2.1 dX6_prove_17 (lv_at hl 0 rfl) ?_
        refine lv_aload_n S.1 S.2.1 dX6_prove_19 rfl (lv_at hl 2 rfl) ?_
        refine lv_iload_n S.1 S.2.1 dX6_prove_20 rfl (lv_at hl 1 rfl) ?_
        obtain ⟨r35, hg34, hf⟩ := x_b1E hf
        refine x_cA (As := [.int v30]) (rest := [.int v31, .ref (a 26)]) (st' := [.int r35, .int v31, .ref (a 26)]) (ws' := (wX6 cI cC cZ h a F G32)) S I (tX6_nextRule l D cI cC cZ h a F G32 v30 r35 hg34) (cwV 1 S.2.2.2.2 gX6_prove_X6_nextRule rfl rfl rfl (by decide +kernel) ⟨Nat.le_of_ble_eq_true rfl, Nat.le_of_ble_eq_true rfl⟩) 0 5 rfl rfl rfl rfl hl rfl (Nat.le_of_ble_eq_true rfl) ⟨Nat.zero_le _, Nat.zero_le _⟩ rfl dX6_prove_21 (fun H locs I => ?_)
        obtain ⟨hi36, hf⟩ := x_ldE hf
        refine x_iast (f := (G32 26)) (ws' := (wX6 cI cC cZ h a F (va_up G32 26 (upd (G32 26) v31.toNatClampNeg r35)))) S I 19 0 rfl rfl hi36 rfl dX6_prove_24 (fun H locs I => ?_)
        refine lv_iload_n S.1 S.2.1 dX6_prove_25 rfl (lv_at hl 1 rfl) ?_
        refine lv_iconst (v := 1) S.1 S.2.1 dX6_prove_26 (by decide) ?_
        refine lv_aload_n S.1 S.2.1 dX6_prove_27 rfl (lv_at hl 2 rfl) ?_
        refine x_get (C := RX6) (T := TX6) (N := 32) (ci := 5) (v := .ref (a 23)) S kX6 rfl I 0 23 rfl (by decide) (by decide +kernel) rfl dX6_prove_28 ?_
        refine lv_aload_n S.1 S.2.1 dX6_prove_31 rfl (lv_at hl 2 rfl) ?_
        refine x_get (C := RX6) (T := TX6) (N := 32) (ci := 5) (v := .ref (a 26)) S kX6 rfl I 0 26 rfl (by decide) (by decide +kernel) rfl dX6_prove_32 ?_
        refine lv_iload S.1 S.2.1 dX6_prove_35 (lv_at hl 0 rfl) ?_
        obtain ⟨hi37, hf⟩ := x_ldE hf
        refine x_iald (f := (upd (G32 26) v31.toNatClampNeg r35)) S I 19 0 rfl rfl hi37 dX6_prove_37 ?_
        obtain ⟨hi38, hf⟩ := x_ldE hf
        refine x_iald (f := (G32 23)) S I 17 0 rfl rfl hi38 dX6_prove_38 ?_
        refine lv_ishl S.1 S.2.1 dX6_prove_39 ?_
        refine lv_ior S.1 S.2.1 dX6_prove_40 ?_
        refine lv_istore_n (lv' := [(3, .int (v30 ||| (x_shl 1 ((G32 23) ((upd (G32 26) v31.toNatClampNeg r35) v31.toNatClampNeg).toNatClampNeg)))), (4, .int v31), (0, .ref h), (2, .int p2)]) S.1 S.2.1 dX6_prove_41 rfl hl (by decide) rfl (fun ls hl => ?_)
        refine lv_iinc (v := (v31 + 1)) (lv' := [(4, .int (v31 + 1)), (3, .int (v30 ||| (x_shl 1 ((G32 23) ((upd (G32 26) v31.toNatClampNeg r35) v31.toNatClampNeg).toNatClampNeg)))), (0, .ref h), (2, .int p2)]) S.1 S.2.1 dX6_prove_42 hl (k := 1) rfl rfl (by decide) rfl (fun ls hl => ?_)
        refine lv_goto (tgt := 5) S.1 S.2.1 dX6_prove_45 (by decide) ?_
        exact ih5 (v30 ||| (x_shl 1 ((G32 23) ((upd (G32 26) v31.toNatClampNeg r35) v31.toNatClampNeg).toNatClampNeg))) (v31 + 1) (va_up G32 26 (upd (G32 26) v31.toNatClampNeg r35)) _ _ _ hf I (lv_sub hl [0, 1, 2, 3] rfl)
  exact hl5 4096 p1 0 G _ _ _ hf I (lv_sub hl [0, 1, 2, 4] rfl)
set_option maxHeartbeats 4000000 in
set_option maxRecDepth 100000 in
theorem tX6_proof (l : Launch) (D : va_G) (cI cC cZ : ClassId) (h : Nat) (a : Nat → Nat) (F : xF) (G : xG) (p1 p2 p3 : Int32) (res : Int32 × xF × xG) (hf : fX6_proof F G p1 p2 p3 = some res) : xC l yX6_proof wsX6_proof rmX6_proof D [.ref h, .int p1, .int p2, .int p3] (wX6 cI cC cZ h a F G) (fun t => (wX6 cI cC cZ h a t.2.1 t.2.2)) (xT cI cC cZ) (fun t => some (.int t.1)) res := by
  have kX6 : ∀ w ∈ u_ws RX6 TX6 32, w ∈ wsX6_proof := by decide +kernel
  refine x_of (cc := cX6_proof) (maxL := 6) (ret := (some .int)) (by decide) rfl (Nat.le_of_ble_eq_true rfl) ?_
  intro p e s m args below meth c A Q ls S I E hl
  replace hl : lv_has ls 6 [(0, .ref h), (1, .int p1), (2, .int p2), (3, .int p3)] := hl
  replace hf := (fX6_proof_e _ _ _ _ _).symm.trans hf
  refine lv_aload_n S.1 S.2.1 dX6_proof_0 rfl (lv_at hl 0 rfl) ?_
  refine lv_iload_n S.1 S.2.1 dX6_proof_1 rfl (lv_at hl 2 rfl) ?_
  obtain ⟨r2, hg1, hf⟩ := x_b1E hf
  refine x_cA (As := [.int p2]) (rest := []) (st' := [.int r2]) (ws' := (wX6 cI cC cZ h a F G)) S I (tX6_isPrinciple l D cI cC cZ h a F G p2 r2 hg1) (cwV 1 S.2.2.2.2 gX6_proof_X6_isPrinciple rfl rfl rfl (by decide +kernel) ⟨Nat.le_of_ble_eq_true rfl, Nat.le_of_ble_eq_true rfl⟩) 0 5 rfl rfl rfl rfl hl rfl (Nat.le_of_ble_eq_true rfl) ⟨Nat.zero_le _, Nat.zero_le _⟩ rfl dX6_proof_2 (fun H locs I => ?_)
  have hj17 : ∀ (v3 : Int32) (H : Heap) (locs : List Loc) (ls : Array Slot), (fX6_proof_j17 F G p1 p2 p3) v3 = some res → xI D A s (wX6 cI cC cZ h a F G) (xT cI cC cZ) H locs → lv_has ls 6 [(0, .ref h), (1, .int p1), (2, .int p2), (3, .int p3)] → W p l e (headSpec wsX6_proof rmX6_proof).room s m args below meth c H locs 0 0 Q (F0 m 17 ls [.int v3]) := by
    intro v3 H locs ls hf I hl
    replace hf := (fX6_proof_j17_e _ _ _ _ _ _).symm.trans hf
    refine lv_istore (lv' := [(4, .int v3), (0, .ref h), (1, .int p1), (2, .int p2), (3, .int p3)]) S.1 S.2.1 dX6_proof_17 hl (by decide) rfl (fun ls hl => ?_)
    refine lv_aload_n S.1 S.2.1 dX6_proof_19 rfl (lv_at hl 1 rfl) ?_
    refine lv_iload S.1 S.2.1 dX6_proof_20 (lv_at hl 0 rfl) ?_
    have hj42 : ∀ (v4 : Int32) (H : Heap) (locs : List Loc) (ls : Array Slot), (fX6_proof_j42 F G p1 p2 p3) v4 = some res → xI D A s (wX6 cI cC cZ h a F G) (xT cI cC cZ) H locs → lv_has ls 6 [(0, .ref h), (1, .int p1), (2, .int p2), (3, .int p3)] → W p l e (headSpec wsX6_proof rmX6_proof).room s m args below meth c H locs 0 0 Q (F0 m 42 ls [.int v4, .ref h]) := by
      intro v4 H locs ls hf I hl
      replace hf := (fX6_proof_j42_e _ _ _ _ _ _).symm.trans hf
      obtain ⟨r6, F7, hg5, hf⟩ := x_b2E hf
      refine x_cA (As := [.int v4]) (rest := []) (st' := [.int r6]) (ws' := (wX6 cI cC cZ h a F7 G)) S I (tX6_goesWell l D cI cC cZ h a F G v4 (r6, F7) hg5) (cwV 1 S.2.2.2.2 gX6_proof_X6_goesWell rfl rfl rfl (by decide +kernel) ⟨Nat.le_of_ble_eq_true rfl, Nat.le_of_ble_eq_true rfl⟩) 0 5 rfl rfl rfl rfl hl rfl (Nat.le_of_ble_eq_true rfl) ⟨Nat.zero_le _, Nat.zero_le _⟩ rfl dX6_proof_42 (fun H locs I => ?_)
      refine lv_if_ne (tgt := 50) S.1 S.2.1 dX6_proof_45 (by decide) (fun c8 => ?_) (fun c8 => ?_)
      · replace hf := x_ifF hf c8
        refine lv_aload_n S.1 S.2.1 dX6_proof_50 rfl (lv_at hl 0 rfl) ?_
        refine lv_iload_n S.1 S.2.1 dX6_proof_51 rfl (lv_at hl 1 rfl) ?_
        obtain ⟨r10, hg9, hf⟩ := x_b1E hf
        refine x_cA (As := [.int p1]) (rest := []) (st' := [.int r10]) (ws' := (wX6 cI cC cZ h a F7 G)) S I (tX6_closed l D cI cC cZ h a F7 G p1 r10 hg9) (cwV 1 S.2.2.2.2 gX6_proof_X6_closed rfl rfl rfl (by decide +kernel) ⟨Nat.le_of_ble_eq_true rfl, Nat.le_of_ble_eq_true rfl⟩) 0 5 rfl rfl rfl rfl hl rfl (Nat.le_of_ble_eq_true rfl) ⟨Nat.zero_le _, Nat.zero_le _⟩ rfl dX6_proof_52 (fun H locs I => ?_)
        refine lv_iload_n S.1 S.2.1 dX6_proof_55 rfl (lv_at hl 2 rfl) ?_
        refine lv_ishr S.1 S.2.1 dX6_proof_56 ?_
        refine lv_iconst (v := 1) S.1 S.2.1 dX6_proof_57 (by decide) ?_
        refine lv_iand S.1 S.2.1 dX6_proof_58 ?_
        refine lv_if_ne (tgt := 64) S.1 S.2.1 dX6_proof_59 (by decide) (fun c11 => ?_) (fun c11 => ?_)
        · replace hf := x_ifF hf c11
          refine lv_aload_n S.1 S.2.1 dX6_proof_64 rfl (lv_at hl 0 rfl) ?_
          refine lv_iload_n S.1 S.2.1 dX6_proof_65 rfl (lv_at hl 1 rfl) ?_
          refine lv_iload_n S.1 S.2.1 dX6_proof_66 rfl (lv_at hl 2 rfl) ?_
          obtain ⟨r13, G14, hg12, hf⟩ := x_b2E hf
          refine x_cA (As := [.int p1, .int p2]) (rest := []) (st' := [.int r13]) (ws' := (wX6 cI cC cZ h a F7 G14)) S I (tX6_prove l D cI cC cZ h a F7 G p1 p2 (r13, G14) hg12) (cwV 2 S.2.2.2.2 gX6_proof_X6_prove rfl rfl rfl (by decide +kernel) ⟨Nat.le_of_ble_eq_true rfl, Nat.le_of_ble_eq_true rfl⟩) 0 5 rfl rfl rfl rfl hl rfl (Nat.le_of_ble_eq_true rfl) ⟨Nat.zero_le _, Nat.zero_le _⟩ rfl dX6_proof_67 (fun H locs I => ?_)
          refine lv_istore (lv' := [(5, .int r13), (0, .ref h), (1, .int p1), (2, .int p2), (3, .int p3)]) S.1 S.2.1 dX6_proof_70 hl (by decide) rfl (fun ls hl => ?_)
          refine lv_iload_n S.1 S.2.1 dX6_proof_72 rfl (lv_at hl 4 rfl) ?_
          refine lv_iload S.1 S.2.1 dX6_proof_73 (lv_at hl 0 rfl) ?_
          refine lv_icmp_ge (tgt := 87) S.1 S.2.1 dX6_proof_75 (by decide) (fun c15 => ?_) (fun c15 => ?_)
          · replace hf := x_ifT hf c15
            refine lv_iconst (v := (-1)) S.1 S.2.1 dX6_proof_87 (by decide) ?_
            exact x_ri E rfl rfl hf rfl I rfl dX6_proof_88
          · replace hf := x_ifF hf c15
            refine lv_aload_n S.1 S.2.1 dX6_proof_78 rfl (lv_at hl 1 rfl) ?_
            refine x_get (C := RX6) (T := TX6) (N := 32) (ci := 5) (v := .ref (a 26)) S kX6 rfl I 0 26 rfl (by decide) (by decide +kernel) rfl dX6_proof_79 ?_
            refine lv_iload_n S.1 S.2.1 dX6_proof_82 rfl (lv_at hl 4 rfl) ?_
            obtain ⟨hi16, hf⟩ := x_ldE hf
            refine x_iald (f := (G14 26)) S I 19 0 rfl rfl hi16 dX6_proof_83 ?_
            refine lv_goto (tgt := 88) S.1 S.2.1 dX6_proof_84 (by decide) ?_
            exact x_ri E rfl rfl hf rfl I rfl dX6_proof_88
        · replace hf := x_ifT hf c11
          refine lv_iconst (v := (-1)) S.1 S.2.1 dX6_proof_62 (by decide) ?_
          exact x_ri E rfl rfl hf rfl I rfl dX6_proof_63
      · replace hf := x_ifT hf c8
        refine lv_iconst (v := 0) S.1 S.2.1 dX6_proof_48 (by decide) ?_
        exact x_ri E rfl rfl hf rfl I rfl dX6_proof_49
    refine lv_if_ne (tgt := 29) S.1 S.2.1 dX6_proof_22 (by decide) (fun c17 => ?_) (fun c17 => ?_)
    · replace hf := x_ifF hf c17
      refine lv_aload_n S.1 S.2.1 dX6_proof_29 rfl (lv_at hl 1 rfl) ?_
      refine lv_iload_n S.1 S.2.1 dX6_proof_30 rfl (lv_at hl 2 rfl) ?_
      obtain ⟨r19, hg18, hf⟩ := x_b1E hf
      refine x_cA (As := [.int p1]) (rest := [.ref h]) (st' := [.int r19, .ref h]) (ws' := (wX6 cI cC cZ h a F G)) S I (tX6_isSet l D cI cC cZ h a F G p1 r19 hg18) (cwV 1 S.2.2.2.2 gX6_proof_X6_isSet rfl rfl rfl (by decide +kernel) ⟨Nat.le_of_ble_eq_true rfl, Nat.le_of_ble_eq_true rfl⟩) 0 5 rfl rfl rfl rfl hl rfl (Nat.le_of_ble_eq_true rfl) ⟨Nat.zero_le _, Nat.zero_le _⟩ rfl dX6_proof_31 (fun H locs I => ?_)
      refine lv_if_eq (tgt := 41) S.1 S.2.1 dX6_proof_34 (by decide) (fun c20 => ?_) (fun c20 => ?_)
      · replace hf := x_ifT hf c20
        refine lv_iconst (v := 2) S.1 S.2.1 dX6_proof_41 (by decide) ?_
        exact hj42 2 _ _ _ hf I (lv_sub hl [1, 2, 3, 4] rfl)
      · replace hf := x_ifF hf c20
        refine lv_iconst (v := 0) S.1 S.2.1 dX6_proof_37 (by decide) ?_
        refine lv_goto (tgt := 42) S.1 S.2.1 dX6_proof_38 (by decide) ?_
        exact hj42 0 _ _ _ hf I (lv_sub hl [1, 2, 3, 4] rfl)
    · replace hf := x_ifT hf c17
      refine lv_iconst (v := 1) S.1 S.2.1 dX6_proof_25 (by decide) ?_
      refine lv_goto (tgt := 42) S.1 S.2.1 dX6_proof_26 (by decide) ?_
      exact hj42 1 _ _ _ hf I (lv_sub hl [1, 2, 3, 4] rfl)
  have hj16 : ∀  (H : Heap) (locs : List Loc) (ls : Array Slot), (fX6_proof_j16 F G p1 p2 p3) = some res → xI D A s (wX6 cI cC cZ h a F G) (xT cI cC cZ) H locs → lv_has ls 6 [(0, .ref h), (1, .int p1), (2, .int p2), (3, .int p3)] → W p l e (headSpec wsX6_proof rmX6_proof).room s m args below meth c H locs 0 0 Q (F0 m 16 ls []) := by
    intro  H locs ls hf I hl
    replace hf := (fX6_proof_j16_e _ _ _ _ _).symm.trans hf
    refine lv_iconst (v := 0) S.1 S.2.1 dX6_proof_16 (by decide) ?_
    exact hj17 0 _ _ _ hf I (lv_sub hl [0, 1, 2, 3] rfl)
  refine lv_if_eq (tgt := 16) S.1 S.2.1 dX6_proof_5 (by decide) (fun c21 => ?_) (fun c21 => ?_)
  · replace hf := x_ifT hf c21
    exact hj16 _ _ _ hf I (lv_sub hl [0, 1, 2, 3] rfl)
  · replace hf := x_ifF hf c21
    refine lv_iload_n S.1 S.2.1 dX6_proof_8 rfl (lv_at hl 3 rfl) ?_
    refine lv_if_lt (tgt := 16) S.1 S.2.1 dX6_proof_9 (by decide) (fun c22 => ?_) (fun c22 => ?_)
    · replace hf := x_ifT hf c22
      exact hj16 _ _ _ hf I (lv_sub hl [0, 1, 2, 3] rfl)
    · replace hf := x_ifF hf c22
      refine lv_iconst (v := 1) S.1 S.2.1 dX6_proof_12 (by decide) ?_
      refine lv_goto (tgt := 17) S.1 S.2.1 dX6_proof_13 (by decide) ?_
      exact hj17 1 _ _ _ hf I (lv_sub hl [0, 1, 2, 3] rfl)
set_option maxHeartbeats 4000000 in
set_option maxRecDepth 100000 in
theorem tX6_knownOf (l : Launch) (D : va_G) (cI cC cZ : ClassId) (h : Nat) (a : Nat → Nat) (F : xF) (G : xG) (p1 p2 : Int32) (res : Int32) (hf : fX6_knownOf F G p1 p2 = some res) : xC l yX6_knownOf wsX6_knownOf rmX6_knownOf D [.ref h, .int p1, .int p2] (wX6 cI cC cZ h a F G) (fun _ => (wX6 cI cC cZ h a F G)) (xT cI cC cZ) (fun t => some (.int t)) res := by
  have kX6 : ∀ w ∈ u_ws RX6 TX6 32, w ∈ wsX6_knownOf := by decide +kernel
  refine x_of (cc := cX6_knownOf) (maxL := 5) (ret := (some .int)) (by decide) rfl (Nat.le_of_ble_eq_true rfl) ?_
  intro p e s m args below meth c A Q ls S I E hl
  replace hl : lv_has ls 5 [(0, .ref h), (1, .int p1), (2, .int p2)] := hl
  replace hf := (fX6_knownOf_e _ _ _ _).symm.trans hf
  refine lv_aload_n S.1 S.2.1 dX6_knownOf_0 rfl (lv_at hl 0 rfl) ?_
  refine lv_iconst (v := 1) S.1 S.2.1 dX6_knownOf_1 (by decide) ?_
  refine lv_iload_n S.1 S.2.1 dX6_knownOf_2 rfl (lv_at hl 1 rfl) ?_
  refine lv_ishl S.1 S.2.1 dX6_knownOf_3 ?_
  obtain ⟨r2, hg1, hf⟩ := x_b1E hf
  refine x_cA (As := [.int (x_shl 1 p1)]) (rest := []) (st' := [.int r2]) (ws' := (wX6 cI cC cZ h a F G)) S I (tX6_closed l D cI cC cZ h a F G (x_shl 1 p1) r2 hg1) (cwV 1 S.2.2.2.2 gX6_knownOf_X6_closed rfl rfl rfl (by decide +kernel) ⟨Nat.le_of_ble_eq_true rfl, Nat.le_of_ble_eq_true rfl⟩) 0 5 rfl rfl rfl rfl hl rfl (Nat.le_of_ble_eq_true rfl) ⟨Nat.zero_le _, Nat.zero_le _⟩ rfl dX6_knownOf_4 (fun H locs I => ?_)
  refine lv_iload_n S.1 S.2.1 dX6_knownOf_7 rfl (lv_at hl 2 rfl) ?_
  refine lv_ishr S.1 S.2.1 dX6_knownOf_8 ?_
  refine lv_iconst (v := 1) S.1 S.2.1 dX6_knownOf_9 (by decide) ?_
  refine lv_iand S.1 S.2.1 dX6_knownOf_10 ?_
  refine lv_iconst (v := 1) S.1 S.2.1 dX6_knownOf_11 (by decide) ?_
  refine lv_icmp_ne (tgt := 17) S.1 S.2.1 dX6_knownOf_12 (by decide) (fun c3 => ?_) (fun c3 => ?_)
  · replace hf := x_ifF hf c3
    refine lv_iconst (v := 0) S.1 S.2.1 dX6_knownOf_17 (by decide) ?_
    refine lv_istore_n (lv' := [(3, .int 0), (0, .ref h), (1, .int p1), (2, .int p2)]) S.1 S.2.1 dX6_knownOf_18 rfl hl (by decide) rfl (fun ls hl => ?_)
    refine lv_iconst (v := 0) S.1 S.2.1 dX6_knownOf_19 (by decide) ?_
    refine lv_istore (lv' := [(4, .int 0), (3, .int 0), (0, .ref h), (1, .int p1), (2, .int p2)]) S.1 S.2.1 dX6_knownOf_20 hl (by decide) rfl (fun ls hl => ?_)
    have hx76 : ∀ (v4 : Int32) (H : Heap) (locs : List Loc) (ls : Array Slot), fX6_knownOf_x76 v4 = some res → xI D A s (wX6 cI cC cZ h a F G) (xT cI cC cZ) H locs → lv_has ls 5 [(3, .int v4)] → W p l e (headSpec wsX6_knownOf rmX6_knownOf).room s m args below meth c H locs 0 0 Q (F0 m 76 ls []) := by
      intro v4 H locs ls hf I hl
      replace hf := (fX6_knownOf_x76_e _).symm.trans hf
      refine lv_iload_n S.1 S.2.1 dX6_knownOf_76 rfl (lv_at hl 0 rfl) ?_
      refine lv_if_eq (tgt := 84) S.1 S.2.1 dX6_knownOf_77 (by decide) (fun c5 => ?_) (fun c5 => ?_)
      · replace hf := x_ifT hf c5
        refine lv_iconst (v := 0) S.1 S.2.1 dX6_knownOf_84 (by decide) ?_
        exact x_ri E rfl rfl hf rfl I rfl dX6_knownOf_85
      · replace hf := x_ifF hf c5
        refine lv_iconst (v := (-1)) S.1 S.2.1 dX6_knownOf_80 (by decide) ?_
        refine lv_goto (tgt := 85) S.1 S.2.1 dX6_knownOf_81 (by decide) ?_
        exact x_ri E rfl rfl hf rfl I rfl dX6_knownOf_85
    have hl22 : ∀ (n22 : Nat), ∀ (v6 : Int32) (v7 : Int32) (H : Heap) (locs : List Loc) (ls : Array Slot), (fX6_knownOf_l22 F G p1 p2 n22) v6 v7 = some res → xI D A s (wX6 cI cC cZ h a F G) (xT cI cC cZ) H locs → lv_has ls 5 [(4, .int v7), (3, .int v6), (0, .ref h), (1, .int p1), (2, .int p2)] → W p l e (headSpec wsX6_knownOf rmX6_knownOf).room s m args below meth c H locs 0 0 Q (F0 m 22 ls []) := by
      intro n22
      induction n22 with
      | zero =>
        intro v6 v7 H locs ls hf I hl
        cases (fX6_knownOf_l22_z _ _ _ _ _ _).symm.trans hf
      | succ n22 ih22 =>
        intro v6 v7 H locs ls hf I hl
        replace hf := (fX6_knownOf_l22_e _ _ _ _ _ _ _).symm.trans hf
        refine lv_iload S.1 S.2.1 dX6_knownOf_22 (lv_at hl 0 rfl) ?_
        refine lv_aload_n S.1 S.2.1 dX6_knownOf_24 rfl (lv_at hl 2 rfl) ?_
        refine x_get (C := RX6) (T := TX6) (N := 32) (ci := 5) (v := .int (F 24)) S kX6 rfl I 0 24 rfl (by decide) (by decide +kernel) rfl dX6_knownOf_25 ?_
        refine lv_icmp_ge (tgt := 76) S.1 S.2.1 dX6_knownOf_28 (by decide) (fun c8 => ?_) (fun c8 => ?_)
        · replace hf := x_ifT hf c8
          exact hx76 v6 _ _ _ hf I (lv_sub hl [1] rfl)
        · replace hf := x_ifF hf c8
          refine lv_iload_n S.1 S.2.1 dX6_knownOf_31 rfl (lv_at hl 1 rfl) ?_
          have hj69 : ∀ (v9 : Int32) (H : Heap) (locs : List Loc) (ls : Array Slot), (fX6_knownOf_j69 (fX6_knownOf_l22 F G p1 p2 n22) v7) v9 = some res → xI D A s (wX6 cI cC cZ h a F G) (xT cI cC cZ) H locs → lv_has ls 5 [(4, .int v7), (0, .ref h), (1, .int p1), (2, .int p2)] → W p l e (headSpec wsX6_knownOf rmX6_knownOf).room s m args below meth c H locs 0 0 Q (F0 m 69 ls [.int v9]) := by
            intro v9 H locs ls hf I hl
            replace hf := (fX6_knownOf_j69_e _ _ _).symm.trans hf
            refine lv_istore_n (lv' := [(3, .int v9), (4, .int v7), (0, .ref h), (1, .int p1), (2, .int p2)]) S.1 S.2.1 dX6_knownOf_69 rfl hl (by decide) rfl (fun ls hl => ?_)
            refine lv_iinc (v := (v7 + 1)) (lv' := [(4, .int (v7 + 1)), (3, .int v9), (0, .ref h), (1, .int p1), (2, .int p2)]) S.1 S.2.1 dX6_knownOf_70 hl (k := 1) rfl rfl (by decide) rfl (fun ls hl => ?_)
            refine lv_goto (tgt := 22) S.1 S.2.1 dX6_knownOf_73 (by decide) ?_
            exact ih22 v9 (v7 + 1) _ _ _ hf I (lv_sub hl [0, 1, 2, 3, 4] rfl)
          have hj64 : ∀  (H : Heap) (locs : List Loc) (ls : Array Slot), (fX6_knownOf_j64 (fX6_knownOf_l22 F G p1 p2 n22) v7) = some res → xI D A s (wX6 cI cC cZ h a F G) (xT cI cC cZ) H locs → lv_has ls 5 [(4, .int v7), (0, .ref h), (1, .int p1), (2, .int p2)] → W p l e (headSpec wsX6_knownOf rmX6_knownOf).room s m args below meth c H locs 0 0 Q (F0 m 64 ls []) := by
            intro  H locs ls hf I hl
            replace hf := (fX6_knownOf_j64_e _ _).symm.trans hf
            refine lv_iconst (v := 1) S.1 S.2.1 dX6_knownOf_64 (by decide) ?_
            refine lv_goto (tgt := 69) S.1 S.2.1 dX6_knownOf_65 (by decide) ?_
            exact hj69 1 _ _ _ hf I (lv_sub hl [0, 1, 2, 3] rfl)
          refine lv_if_ne (tgt := 64) S.1 S.2.1 dX6_knownOf_32 (by decide) (fun c10 => ?_) (fun c10 => ?_)
          · replace hf := x_ifF hf c10
            exact hj64 _ _ _ hf I (lv_sub hl [0, 2, 3, 4] rfl)
          · replace hf := x_ifT hf c10
            refine lv_aload_n S.1 S.2.1 dX6_knownOf_35 rfl (lv_at hl 2 rfl) ?_
            refine x_get (C := RX6) (T := TX6) (N := 32) (ci := 5) (v := .ref (a 25)) S kX6 rfl I 0 25 rfl (by decide) (by decide +kernel) rfl dX6_knownOf_36 ?_
            refine lv_iload S.1 S.2.1 dX6_knownOf_39 (lv_at hl 0 rfl) ?_
            obtain ⟨hi11, hf⟩ := x_ldE hf
            refine x_iald (f := (G 25)) S I 18 0 rfl rfl hi11 dX6_knownOf_41 ?_
            refine lv_iload_n S.1 S.2.1 dX6_knownOf_42 rfl (lv_at hl 3 rfl) ?_
            refine lv_ishr S.1 S.2.1 dX6_knownOf_43 ?_
            refine lv_iconst (v := 1) S.1 S.2.1 dX6_knownOf_44 (by decide) ?_
            refine lv_iand S.1 S.2.1 dX6_knownOf_45 ?_
            refine lv_iconst (v := 1) S.1 S.2.1 dX6_knownOf_46 (by decide) ?_
            have hj68 : ∀  (H : Heap) (locs : List Loc) (ls : Array Slot), (fX6_knownOf_j68 (fX6_knownOf_l22 F G p1 p2 n22) v7) = some res → xI D A s (wX6 cI cC cZ h a F G) (xT cI cC cZ) H locs → lv_has ls 5 [(4, .int v7), (0, .ref h), (1, .int p1), (2, .int p2)] → W p l e (headSpec wsX6_knownOf rmX6_knownOf).room s m args below meth c H locs 0 0 Q (F0 m 68 ls []) := by
              intro  H locs ls hf I hl
              replace hf := (fX6_knownOf_j68_e _ _).symm.trans hf
              refine lv_iconst (v := 0) S.1 S.2.1 dX6_knownOf_68 (by decide) ?_
              exact hj69 0 _ _ _ hf I (lv_sub hl [0, 1, 2, 3] rfl)
            refine lv_icmp_ne (tgt := 68) S.1 S.2.1 dX6_knownOf_47 (by decide) (fun c12 => ?_) (fun c12 => ?_)
            · replace hf := x_ifF hf c12
              exact hj68 _ _ _ hf I (lv_sub hl [0, 2, 3, 4] rfl)
            · replace hf := x_ifT hf c12
              refine lv_aload_n S.1 S.2.1 dX6_knownOf_50 rfl (lv_at hl 2 rfl) ?_
              refine x_get (C := RX6) (T := TX6) (N := 32) (ci := 5) (v := .ref (a 25)) S kX6 rfl I 0 25 rfl (by decide) (by decide +kernel) rfl dX6_knownOf_51 ?_
              refine lv_iload S.1 S.2.1 dX6_knownOf_54 (lv_at hl 0 rfl) ?_
              obtain ⟨hi13, hf⟩ := x_ldE hf
              refine x_iald (f := (G 25)) S I 18 0 rfl rfl hi13 dX6_knownOf_56 ?_
              refine lv_iload_n S.1 S.2.1 dX6_knownOf_57 rfl (lv_at hl 4 rfl) ?_
              refine lv_ishr S.1 S.2.1 dX6_knownOf_58 ?_
              refine lv_iconst (v := 1) S.1 S.2.1 dX6_knownOf_59 (by decide) ?_
              refine lv_iand S.1 S.2.1 dX6_knownOf_60 ?_
              refine lv_if_ne (tgt := 68) S.1 S.2.1 dX6_knownOf_61 (by decide) (fun c14 => ?_) (fun c14 => ?_)
              · replace hf := x_ifF hf c14
                exact hj68 _ _ _ hf I (lv_sub hl [0, 2, 3, 4] rfl)
              · replace hf := x_ifT hf c14
                exact hj64 _ _ _ hf I (lv_sub hl [0, 2, 3, 4] rfl)
    exact hl22 4096 0 0 _ _ _ hf I (lv_sub hl [0, 1, 2, 3, 4] rfl)
  · replace hf := x_ifT hf c3
    refine lv_iconst (v := 1) S.1 S.2.1 dX6_knownOf_15 (by decide) ?_
    exact x_ri E rfl rfl hf rfl I rfl dX6_knownOf_16
set_option maxHeartbeats 4000000 in
set_option maxRecDepth 100000 in
theorem tX6_known (l : Launch) (D : va_G) (cI cC cZ : ClassId) (h : Nat) (a : Nat → Nat) (F : xF) (G : xG) (p1 p2 : Int32) (res : Int32 × xF) (hf : fX6_known F G p1 p2 = some res) : xC l yX6_known wsX6_known rmX6_known D [.ref h, .int p1, .int p2] (wX6 cI cC cZ h a F G) (fun t => (wX6 cI cC cZ h a t.2 G)) (xT cI cC cZ) (fun t => some (.int t.1)) res := by
  refine x_of (cc := cX6_known) (maxL := 4) (ret := (some .int)) (by decide) rfl (Nat.le_of_ble_eq_true rfl) ?_
  intro p e s m args below meth c A Q ls S I E hl
  replace hl : lv_has ls 4 [(0, .ref h), (1, .int p1), (2, .int p2)] := hl
  replace hf := (fX6_known_e _ _ _ _).symm.trans hf
  refine lv_aload_n S.1 S.2.1 dX6_known_0 rfl (lv_at hl 0 rfl) ?_
  refine lv_iload_n S.1 S.2.1 dX6_known_1 rfl (lv_at hl 1 rfl) ?_
  obtain ⟨r2, hg1, hf⟩ := x_b1E hf
  refine x_cA (As := [.int p1]) (rest := []) (st' := [.int r2]) (ws' := (wX6 cI cC cZ h a F G)) S I (tX6_isPrinciple l D cI cC cZ h a F G p1 r2 hg1) (cwV 1 S.2.2.2.2 gX6_known_X6_isPrinciple rfl rfl rfl (by decide +kernel) ⟨Nat.le_of_ble_eq_true rfl, Nat.le_of_ble_eq_true rfl⟩) 0 5 rfl rfl rfl rfl hl rfl (Nat.le_of_ble_eq_true rfl) ⟨Nat.zero_le _, Nat.zero_le _⟩ rfl dX6_known_2 (fun H locs I => ?_)
  have hj21 : ∀ (v3 : Int32) (H : Heap) (locs : List Loc) (ls : Array Slot), (fX6_known_j21 F G p1 p2) v3 = some res → xI D A s (wX6 cI cC cZ h a F G) (xT cI cC cZ) H locs → lv_has ls 4 [(0, .ref h), (1, .int p1), (2, .int p2)] → W p l e (headSpec wsX6_known rmX6_known).room s m args below meth c H locs 0 0 Q (F0 m 21 ls [.int v3]) := by
    intro v3 H locs ls hf I hl
    replace hf := (fX6_known_j21_e _ _ _ _ _).symm.trans hf
    refine lv_istore_n (lv' := [(3, .int v3), (0, .ref h), (1, .int p1), (2, .int p2)]) S.1 S.2.1 dX6_known_21 rfl hl (by decide) rfl (fun ls hl => ?_)
    refine lv_aload_n S.1 S.2.1 dX6_known_22 rfl (lv_at hl 1 rfl) ?_
    refine lv_iload_n S.1 S.2.1 dX6_known_23 rfl (lv_at hl 0 rfl) ?_
    have hj41 : ∀ (v4 : Int32) (H : Heap) (locs : List Loc) (ls : Array Slot), (fX6_known_j41 F G p1 p2) v4 = some res → xI D A s (wX6 cI cC cZ h a F G) (xT cI cC cZ) H locs → lv_has ls 4 [(0, .ref h), (1, .int p1), (2, .int p2)] → W p l e (headSpec wsX6_known rmX6_known).room s m args below meth c H locs 0 0 Q (F0 m 41 ls [.int v4, .ref h]) := by
      intro v4 H locs ls hf I hl
      replace hf := (fX6_known_j41_e _ _ _ _ _).symm.trans hf
      obtain ⟨r6, F7, hg5, hf⟩ := x_b2E hf
      refine x_cA (As := [.int v4]) (rest := []) (st' := [.int r6]) (ws' := (wX6 cI cC cZ h a F7 G)) S I (tX6_goesWell l D cI cC cZ h a F G v4 (r6, F7) hg5) (cwV 1 S.2.2.2.2 gX6_known_X6_goesWell rfl rfl rfl (by decide +kernel) ⟨Nat.le_of_ble_eq_true rfl, Nat.le_of_ble_eq_true rfl⟩) 0 5 rfl rfl rfl rfl hl rfl (Nat.le_of_ble_eq_true rfl) ⟨Nat.zero_le _, Nat.zero_le _⟩ rfl dX6_known_41 (fun H locs I => ?_)
      refine lv_if_eq (tgt := 56) S.1 S.2.1 dX6_known_44 (by decide) (fun c8 => ?_) (fun c8 => ?_)
      · replace hf := x_ifT hf c8
        refine lv_iconst (v := 0) S.1 S.2.1 dX6_known_56 (by decide) ?_
        exact x_ri E rfl rfl hf rfl I rfl dX6_known_57
      · replace hf := x_ifF hf c8
        refine lv_aload_n S.1 S.2.1 dX6_known_47 rfl (lv_at hl 0 rfl) ?_
        refine lv_iload_n S.1 S.2.1 dX6_known_48 rfl (lv_at hl 1 rfl) ?_
        refine lv_iload_n S.1 S.2.1 dX6_known_49 rfl (lv_at hl 2 rfl) ?_
        obtain ⟨r10, hg9, hf⟩ := x_b1E hf
        refine x_cA (As := [.int p1, .int p2]) (rest := []) (st' := [.int r10]) (ws' := (wX6 cI cC cZ h a F7 G)) S I (tX6_knownOf l D cI cC cZ h a F7 G p1 p2 r10 hg9) (cwV 2 S.2.2.2.2 gX6_known_X6_knownOf rfl rfl rfl (by decide +kernel) ⟨Nat.le_of_ble_eq_true rfl, Nat.le_of_ble_eq_true rfl⟩) 0 5 rfl rfl rfl rfl hl rfl (Nat.le_of_ble_eq_true rfl) ⟨Nat.zero_le _, Nat.zero_le _⟩ rfl dX6_known_50 (fun H locs I => ?_)
        refine lv_goto (tgt := 57) S.1 S.2.1 dX6_known_53 (by decide) ?_
        exact x_ri E rfl rfl hf rfl I rfl dX6_known_57
    refine lv_if_ne (tgt := 31) S.1 S.2.1 dX6_known_24 (by decide) (fun c11 => ?_) (fun c11 => ?_)
    · replace hf := x_ifF hf c11
      refine lv_iload_n S.1 S.2.1 dX6_known_31 rfl (lv_at hl 2 rfl) ?_
      refine lv_iload_n S.1 S.2.1 dX6_known_32 rfl (lv_at hl 3 rfl) ?_
      refine lv_icmp_eq (tgt := 40) S.1 S.2.1 dX6_known_33 (by decide) (fun c12 => ?_) (fun c12 => ?_)
      · replace hf := x_ifT hf c12
        refine lv_iconst (v := 2) S.1 S.2.1 dX6_known_40 (by decide) ?_
        exact hj41 2 _ _ _ hf I (lv_sub hl [1, 2, 3] rfl)
      · replace hf := x_ifF hf c12
        refine lv_iconst (v := 0) S.1 S.2.1 dX6_known_36 (by decide) ?_
        refine lv_goto (tgt := 41) S.1 S.2.1 dX6_known_37 (by decide) ?_
        exact hj41 0 _ _ _ hf I (lv_sub hl [1, 2, 3] rfl)
    · replace hf := x_ifT hf c11
      refine lv_iconst (v := 1) S.1 S.2.1 dX6_known_27 (by decide) ?_
      refine lv_goto (tgt := 41) S.1 S.2.1 dX6_known_28 (by decide) ?_
      exact hj41 1 _ _ _ hf I (lv_sub hl [1, 2, 3] rfl)
  have hj20 : ∀  (H : Heap) (locs : List Loc) (ls : Array Slot), (fX6_known_j20 F G p1 p2) = some res → xI D A s (wX6 cI cC cZ h a F G) (xT cI cC cZ) H locs → lv_has ls 4 [(0, .ref h), (1, .int p1), (2, .int p2)] → W p l e (headSpec wsX6_known rmX6_known).room s m args below meth c H locs 0 0 Q (F0 m 20 ls []) := by
    intro  H locs ls hf I hl
    replace hf := (fX6_known_j20_e _ _ _ _).symm.trans hf
    refine lv_iconst (v := 0) S.1 S.2.1 dX6_known_20 (by decide) ?_
    exact hj21 0 _ _ _ hf I (lv_sub hl [0, 1, 2] rfl)
  refine lv_if_eq (tgt := 20) S.1 S.2.1 dX6_known_5 (by decide) (fun c13 => ?_) (fun c13 => ?_)
  · replace hf := x_ifT hf c13
    exact hj20 _ _ _ hf I (lv_sub hl [0, 1, 2] rfl)
  · replace hf := x_ifF hf c13
    refine lv_aload_n S.1 S.2.1 dX6_known_8 rfl (lv_at hl 0 rfl) ?_
    refine lv_iload_n S.1 S.2.1 dX6_known_9 rfl (lv_at hl 2 rfl) ?_
    obtain ⟨r15, hg14, hf⟩ := x_b1E hf
    refine x_cA (As := [.int p2]) (rest := []) (st' := [.int r15]) (ws' := (wX6 cI cC cZ h a F G)) S I (tX6_isPrinciple l D cI cC cZ h a F G p2 r15 hg14) (cwV 1 S.2.2.2.2 gX6_known_X6_isPrinciple rfl rfl rfl (by decide +kernel) ⟨Nat.le_of_ble_eq_true rfl, Nat.le_of_ble_eq_true rfl⟩) 0 5 rfl rfl rfl rfl hl rfl (Nat.le_of_ble_eq_true rfl) ⟨Nat.zero_le _, Nat.zero_le _⟩ rfl dX6_known_10 (fun H locs I => ?_)
    refine lv_if_eq (tgt := 20) S.1 S.2.1 dX6_known_13 (by decide) (fun c16 => ?_) (fun c16 => ?_)
    · replace hf := x_ifT hf c16
      exact hj20 _ _ _ hf I (lv_sub hl [0, 1, 2] rfl)
    · replace hf := x_ifF hf c16
      refine lv_iconst (v := 1) S.1 S.2.1 dX6_known_16 (by decide) ?_
      refine lv_goto (tgt := 21) S.1 S.2.1 dX6_known_17 (by decide) ?_
      exact hj21 1 _ _ _ hf I (lv_sub hl [0, 1, 2] rfl)
set_option maxHeartbeats 4000000 in
set_option maxRecDepth 100000 in
theorem tX6_open (l : Launch) (D : va_G) (cI cC cZ : ClassId) (h : Nat) (a : Nat → Nat) (F : xF) (G : xG) (res : Int32 × xF) (hf : fX6_open F G = some res) : xC l yX6_open wsX6_open rmX6_open D [.ref h] (wX6 cI cC cZ h a F G) (fun t => (wX6 cI cC cZ h a t.2 G)) (xT cI cC cZ) (fun t => some (.int t.1)) res := by
  have kX6 : ∀ w ∈ u_ws RX6 TX6 32, w ∈ wsX6_open := by decide +kernel
  refine x_of (cc := cX6_open) (maxL := 4) (ret := (some .int)) (by decide) rfl (Nat.le_of_ble_eq_true rfl) ?_
  intro p e s m args below meth c A Q ls S I E hl
  replace hl : lv_has ls 4 [(0, .ref h)] := hl
  replace hf := (fX6_open_e _ _).symm.trans hf
  refine lv_aload_n S.1 S.2.1 dX6_open_0 rfl (lv_at hl 0 rfl) ?_
  refine lv_iconst (v := 0) S.1 S.2.1 dX6_open_1 (by decide) ?_
  refine x_put (C := RX6) (T := TX6) (N := 32) (ci := 5) (ws' := (wX6 cI cC cZ h a (va_up F 0 0) G)) S kX6 tyX6 tyX6_ok nmX6 rfl I 0 0 rfl (by decide) (by decide +kernel) rfl rfl (Nat.le_of_ble_eq_true rfl) rfl dX6_open_2 (fun H locs I => ?_)
  refine lv_iconst (v := 0) S.1 S.2.1 dX6_open_5 (by decide) ?_
  refine lv_istore_n (lv' := [(1, .int 0), (0, .ref h)]) S.1 S.2.1 dX6_open_6 rfl hl (by decide) rfl (fun ls hl => ?_)
  refine lv_iconst (v := 0) S.1 S.2.1 dX6_open_7 (by decide) ?_
  refine lv_istore_n (lv' := [(2, .int 0), (1, .int 0), (0, .ref h)]) S.1 S.2.1 dX6_open_8 rfl hl (by decide) rfl (fun ls hl => ?_)
  have hl9 : ∀ (n9 : Nat), ∀ (v1 : Int32) (v2 : Int32) (H : Heap) (locs : List Loc) (ls : Array Slot), (fX6_open_l9 F G n9) v1 v2 = some res → xI D A s (wX6 cI cC cZ h a (va_up F 0 0) G) (xT cI cC cZ) H locs → lv_has ls 4 [(2, .int v2), (1, .int v1), (0, .ref h)] → W p l e (headSpec wsX6_open rmX6_open).room s m args below meth c H locs 0 0 Q (F0 m 9 ls []) := by
    intro n9
    induction n9 with
    | zero =>
      intro v1 v2 H locs ls hf I hl
      cases (fX6_open_l9_z _ _ _ _).symm.trans hf
    | succ n9 ih9 =>
      intro v1 v2 H locs ls hf I hl
      replace hf := (fX6_open_l9_e _ _ _ _ _).symm.trans hf
      refine lv_iload_n S.1 S.2.1 dX6_open_9 rfl (lv_at hl 0 rfl) ?_
      refine lv_aload_n S.1 S.2.1 dX6_open_10 rfl (lv_at hl 2 rfl) ?_
      refine x_get (C := RX6) (T := TX6) (N := 32) (ci := 5) (v := .int (F 18)) S kX6 rfl I 0 18 rfl (by decide) (by decide +kernel) rfl dX6_open_11 ?_
      refine lv_icmp_ge (tgt := 61) S.1 S.2.1 dX6_open_14 (by decide) (fun c3 => ?_) (fun c3 => ?_)
      · replace hf := x_ifT hf c3
        refine lv_iload_n S.1 S.2.1 dX6_open_61 rfl (lv_at hl 1 rfl) ?_
        exact x_ri E rfl rfl hf rfl I rfl dX6_open_62
      · replace hf := x_ifF hf c3
        refine lv_iconst (v := 0) S.1 S.2.1 dX6_open_17 (by decide) ?_
        refine lv_istore_n (lv' := [(3, .int 0), (2, .int v2), (1, .int v1), (0, .ref h)]) S.1 S.2.1 dX6_open_18 rfl hl (by decide) rfl (fun ls hl => ?_)
        have hx55 : ∀ (v4 : Int32) (H : Heap) (locs : List Loc) (ls : Array Slot), (fX6_open_x55 (fX6_open_l9 F G n9) v2) v4 = some res → xI D A s (wX6 cI cC cZ h a (va_up F 0 0) G) (xT cI cC cZ) H locs → lv_has ls 4 [(2, .int v2), (1, .int v4), (0, .ref h)] → W p l e (headSpec wsX6_open rmX6_open).room s m args below meth c H locs 0 0 Q (F0 m 55 ls []) := by
          intro v4 H locs ls hf I hl
          replace hf := (fX6_open_x55_e _ _ _).symm.trans hf
          refine lv_iinc (v := (v2 + 1)) (lv' := [(2, .int (v2 + 1)), (1, .int v4), (0, .ref h)]) S.1 S.2.1 dX6_open_55 hl (k := 0) rfl rfl (by decide) rfl (fun ls hl => ?_)
          refine lv_goto (tgt := 9) S.1 S.2.1 dX6_open_58 (by decide) ?_
          exact ih9 v4 (v2 + 1) _ _ _ hf I (lv_sub hl [0, 1, 2] rfl)
        have hl19 : ∀ (n19 : Nat), ∀ (v5 : Int32) (v6 : Int32) (H : Heap) (locs : List Loc) (ls : Array Slot), (fX6_open_l19 (fX6_open_l9 F G n9) F G v2 n19) v5 v6 = some res → xI D A s (wX6 cI cC cZ h a (va_up F 0 0) G) (xT cI cC cZ) H locs → lv_has ls 4 [(3, .int v6), (2, .int v2), (1, .int v5), (0, .ref h)] → W p l e (headSpec wsX6_open rmX6_open).room s m args below meth c H locs 0 0 Q (F0 m 19 ls []) := by
          intro n19
          induction n19 with
          | zero =>
            intro v5 v6 H locs ls hf I hl
            cases (fX6_open_l19_z _ _ _ _ _ _).symm.trans hf
          | succ n19 ih19 =>
            intro v5 v6 H locs ls hf I hl
            replace hf := (fX6_open_l19_e _ _ _ _ _ _ _).symm.trans hf
            refine lv_iload_n S.1 S.2.1 dX6_open_19 rfl (lv_at hl 0 rfl) ?_
            refine lv_aload_n S.1 S.2.1 dX6_open_20 rfl (lv_at hl 3 rfl) ?_
            refine x_get (C := RX6) (T := TX6) (N := 32) (ci := 5) (v := .int (F 18)) S kX6 rfl I 0 18 rfl (by decide) (by decide +kernel) rfl dX6_open_21 ?_
            refine lv_icmp_ge (tgt := 55) S.1 S.2.1 dX6_open_24 (by decide) (fun c7 => ?_) (fun c7 => ?_)
            · replace hf := x_ifT hf c7
              exact hx55 v5 _ _ _ hf I (lv_sub hl [1, 2, 3] rfl)
            · replace hf := x_ifF hf c7
              refine lv_iload_n S.1 S.2.1 dX6_open_27 rfl (lv_at hl 2 rfl) ?_
              refine lv_iload_n S.1 S.2.1 dX6_open_28 rfl (lv_at hl 1 rfl) ?_
              refine lv_iload_n S.1 S.2.1 dX6_open_29 rfl (lv_at hl 0 rfl) ?_
              have hj47 : ∀ (v8 : Int32) (H : Heap) (locs : List Loc) (ls : Array Slot), (fX6_open_j47 (fX6_open_l19 (fX6_open_l9 F G n9) F G v2 n19) v5 v6) v8 = some res → xI D A s (wX6 cI cC cZ h a (va_up F 0 0) G) (xT cI cC cZ) H locs → lv_has ls 4 [(3, .int v6), (2, .int v2), (0, .ref h)] → W p l e (headSpec wsX6_open rmX6_open).room s m args below meth c H locs 0 0 Q (F0 m 47 ls [.int v8, .int v5]) := by
                intro v8 H locs ls hf I hl
                replace hf := (fX6_open_j47_e _ _ _ _).symm.trans hf
                refine lv_iadd S.1 S.2.1 dX6_open_47 ?_
                refine lv_istore_n (lv' := [(1, .int (v5 + v8)), (3, .int v6), (2, .int v2), (0, .ref h)]) S.1 S.2.1 dX6_open_48 rfl hl (by decide) rfl (fun ls hl => ?_)
                refine lv_iinc (v := (v6 + 1)) (lv' := [(3, .int (v6 + 1)), (1, .int (v5 + v8)), (2, .int v2), (0, .ref h)]) S.1 S.2.1 dX6_open_49 hl (k := 1) rfl rfl (by decide) rfl (fun ls hl => ?_)
                refine lv_goto (tgt := 19) S.1 S.2.1 dX6_open_52 (by decide) ?_
                exact ih19 (v5 + v8) (v6 + 1) _ _ _ hf I (lv_sub hl [0, 2, 1, 3] rfl)
              have hj46 : ∀  (H : Heap) (locs : List Loc) (ls : Array Slot), (fX6_open_j46 (fX6_open_l19 (fX6_open_l9 F G n9) F G v2 n19) v5 v6) = some res → xI D A s (wX6 cI cC cZ h a (va_up F 0 0) G) (xT cI cC cZ) H locs → lv_has ls 4 [(3, .int v6), (2, .int v2), (0, .ref h)] → W p l e (headSpec wsX6_open rmX6_open).room s m args below meth c H locs 0 0 Q (F0 m 46 ls [.int v5]) := by
                intro  H locs ls hf I hl
                replace hf := (fX6_open_j46_e _ _ _).symm.trans hf
                refine lv_iconst (v := 0) S.1 S.2.1 dX6_open_46 (by decide) ?_
                exact hj47 0 _ _ _ hf I (lv_sub hl [0, 1, 2] rfl)
              refine lv_icmp_eq (tgt := 46) S.1 S.2.1 dX6_open_30 (by decide) (fun c9 => ?_) (fun c9 => ?_)
              · replace hf := x_ifT hf c9
                exact hj46 _ _ _ hf I (lv_sub hl [0, 1, 3] rfl)
              · replace hf := x_ifF hf c9
                refine lv_aload_n S.1 S.2.1 dX6_open_33 rfl (lv_at hl 3 rfl) ?_
                refine lv_iload_n S.1 S.2.1 dX6_open_34 rfl (lv_at hl 1 rfl) ?_
                refine lv_iload_n S.1 S.2.1 dX6_open_35 rfl (lv_at hl 0 rfl) ?_
                obtain ⟨r11, hg10, hf⟩ := x_b1E hf
                refine x_cA (As := [.int v2, .int v6]) (rest := [.int v5]) (st' := [.int r11, .int v5]) (ws' := (wX6 cI cC cZ h a (va_up F 0 0) G)) S I (tX6_knownOf l D cI cC cZ h a (va_up F 0 0) G v2 v6 r11 hg10) (cwV 2 S.2.2.2.2 gX6_open_X6_knownOf rfl rfl rfl (by decide +kernel) ⟨Nat.le_of_ble_eq_true rfl, Nat.le_of_ble_eq_true rfl⟩) 0 5 rfl rfl rfl rfl hl rfl (Nat.le_of_ble_eq_true rfl) ⟨Nat.zero_le _, Nat.zero_le _⟩ rfl dX6_open_36 (fun H locs I => ?_)
                refine lv_if_ne (tgt := 46) S.1 S.2.1 dX6_open_39 (by decide) (fun c12 => ?_) (fun c12 => ?_)
                · replace hf := x_ifF hf c12
                  exact hj46 _ _ _ hf I (lv_sub hl [0, 1, 3] rfl)
                · replace hf := x_ifT hf c12
                  refine lv_iconst (v := 1) S.1 S.2.1 dX6_open_42 (by decide) ?_
                  refine lv_goto (tgt := 47) S.1 S.2.1 dX6_open_43 (by decide) ?_
                  exact hj47 1 _ _ _ hf I (lv_sub hl [0, 1, 3] rfl)
        exact hl19 4096 v1 0 _ _ _ hf I (lv_sub hl [0, 1, 2, 3] rfl)
  exact hl9 4096 0 0 _ _ _ hf I (lv_sub hl [0, 1, 2] rfl)
set_option maxHeartbeats 4000000 in
set_option maxRecDepth 100000 in
theorem tX6_bits (l : Launch) (D : va_G) (cI cC cZ : ClassId) (p1 : Int32) (res : Int32) (hf : fX6_bits p1 = some res) : xC l yX6_bits wsX6_bits rmX6_bits D [.int p1] [] (fun _ => []) (xT cI cC cZ) (fun t => some (.int t)) res := by
  refine x_of (cc := cX6_bits) (maxL := 3) (ret := (some .int)) (by decide) rfl (Nat.le_of_ble_eq_true rfl) ?_
  intro p e s m args below meth c A Q ls S I E hl
  replace hl : lv_has ls 3 [(0, .int p1)] := hl
  replace hf := (fX6_bits_e _).symm.trans hf
  refine lv_iconst (v := 0) S.1 S.2.1 dX6_bits_0 (by decide) ?_
  refine lv_istore_n (lv' := [(1, .int 0), (0, .int p1)]) S.1 S.2.1 dX6_bits_1 rfl hl (by decide) rfl (fun ls hl => ?_)
  refine lv_iconst (v := 0) S.1 S.2.1 dX6_bits_2 (by decide) ?_
  refine lv_istore_n (lv' := [(2, .int 0), (1, .int 0), (0, .int p1)]) S.1 S.2.1 dX6_bits_3 rfl hl (by decide) rfl (fun ls hl => ?_)
  have hl4 : ∀ (n4 : Nat), ∀ (v1 : Int32) (v2 : Int32) (H : Heap) (locs : List Loc) (ls : Array Slot), (fX6_bits_l4 p1 n4) v1 v2 = some res → xI D A s [] (xT cI cC cZ) H locs → lv_has ls 3 [(2, .int v2), (1, .int v1), (0, .int p1)] → W p l e (headSpec wsX6_bits rmX6_bits).room s m args below meth c H locs 0 0 Q (F0 m 4 ls []) := by
    intro n4
    induction n4 with
    | zero =>
      intro v1 v2 H locs ls hf I hl
      cases (fX6_bits_l4_z _ _ _).symm.trans hf
    | succ n4 ih4 =>
      intro v1 v2 H locs ls hf I hl
      replace hf := (fX6_bits_l4_e _ _ _ _).symm.trans hf
      refine lv_iload_n S.1 S.2.1 dX6_bits_4 rfl (lv_at hl 0 rfl) ?_
      refine lv_bipush (v := 10) S.1 S.2.1 dX6_bits_5 (by decide) ?_
      refine lv_icmp_ge (tgt := 24) S.1 S.2.1 dX6_bits_7 (by decide) (fun c3 => ?_) (fun c3 => ?_)
      · replace hf := x_ifT hf c3
        refine lv_iload_n S.1 S.2.1 dX6_bits_24 rfl (lv_at hl 1 rfl) ?_
        exact x_ri E rfl rfl hf rfl I rfl dX6_bits_25
      · replace hf := x_ifF hf c3
        refine lv_iload_n S.1 S.2.1 dX6_bits_10 rfl (lv_at hl 1 rfl) ?_
        refine lv_iload_n S.1 S.2.1 dX6_bits_11 rfl (lv_at hl 2 rfl) ?_
        refine lv_iload_n S.1 S.2.1 dX6_bits_12 rfl (lv_at hl 0 rfl) ?_
        refine lv_ishr S.1 S.2.1 dX6_bits_13 ?_
        refine lv_iconst (v := 1) S.1 S.2.1 dX6_bits_14 (by decide) ?_
        refine lv_iand S.1 S.2.1 dX6_bits_15 ?_
        refine lv_iadd S.1 S.2.1 dX6_bits_16 ?_
        refine lv_istore_n (lv' := [(1, .int (v1 + ((x_shr p1 v2) &&& 1))), (2, .int v2), (0, .int p1)]) S.1 S.2.1 dX6_bits_17 rfl hl (by decide) rfl (fun ls hl => ?_)
        refine lv_iinc (v := (v2 + 1)) (lv' := [(2, .int (v2 + 1)), (1, .int (v1 + ((x_shr p1 v2) &&& 1))), (0, .int p1)]) S.1 S.2.1 dX6_bits_18 hl (k := 1) rfl rfl (by decide) rfl (fun ls hl => ?_)
        refine lv_goto (tgt := 4) S.1 S.2.1 dX6_bits_21 (by decide) ?_
        exact ih4 (v1 + ((x_shr p1 v2) &&& 1)) (v2 + 1) _ _ _ hf I (lv_sub hl [0, 1, 2] rfl)
  exact hl4 4096 0 0 _ _ _ hf I (lv_sub hl [0, 1, 2] rfl)
set_option maxHeartbeats 4000000 in
set_option maxRecDepth 100000 in
theorem tX6_leastOf (l : Launch) (D : va_G) (cI cC cZ : ClassId) (h : Nat) (a : Nat → Nat) (F : xF) (G : xG) (p1 p2 : Int32) (res : Int32 × xF) (hf : fX6_leastOf F G p1 p2 = some res) : xC l yX6_leastOf wsX6_leastOf rmX6_leastOf D [.ref h, .int p1, .int p2] (wX6 cI cC cZ h a F G) (fun t => (wX6 cI cC cZ h a t.2 G)) (xT cI cC cZ) (fun t => some (.int t.1)) res := by
  refine x_of (cc := cX6_leastOf) (maxL := 7) (ret := (some .int)) (by decide) rfl (Nat.le_of_ble_eq_true rfl) ?_
  intro p e s m args below meth c A Q ls S I E hl
  replace hl : lv_has ls 7 [(0, .ref h), (1, .int p1), (2, .int p2)] := hl
  replace hf := (fX6_leastOf_e _ _ _ _).symm.trans hf
  refine lv_aload_n S.1 S.2.1 dX6_leastOf_0 rfl (lv_at hl 0 rfl) ?_
  refine lv_iload_n S.1 S.2.1 dX6_leastOf_1 rfl (lv_at hl 1 rfl) ?_
  obtain ⟨r2, hg1, hf⟩ := x_b1E hf
  refine x_cA (As := [.int p1]) (rest := []) (st' := [.int r2]) (ws' := (wX6 cI cC cZ h a F G)) S I (tX6_isPrinciple l D cI cC cZ h a F G p1 r2 hg1) (cwV 1 S.2.2.2.2 gX6_leastOf_X6_isPrinciple rfl rfl rfl (by decide +kernel) ⟨Nat.le_of_ble_eq_true rfl, Nat.le_of_ble_eq_true rfl⟩) 0 5 rfl rfl rfl rfl hl rfl (Nat.le_of_ble_eq_true rfl) ⟨Nat.zero_le _, Nat.zero_le _⟩ rfl dX6_leastOf_2 (fun H locs I => ?_)
  refine lv_istore_n (lv' := [(3, .int r2), (0, .ref h), (1, .int p1), (2, .int p2)]) S.1 S.2.1 dX6_leastOf_5 rfl hl (by decide) rfl (fun ls hl => ?_)
  refine lv_aload_n S.1 S.2.1 dX6_leastOf_6 rfl (lv_at hl 1 rfl) ?_
  refine lv_iload_n S.1 S.2.1 dX6_leastOf_7 rfl (lv_at hl 0 rfl) ?_
  have hj28 : ∀ (v3 : Int32) (H : Heap) (locs : List Loc) (ls : Array Slot), (fX6_leastOf_j28 F G p2 p1) v3 = some res → xI D A s (wX6 cI cC cZ h a F G) (xT cI cC cZ) H locs → lv_has ls 7 [(0, .ref h), (1, .int p1), (2, .int p2)] → W p l e (headSpec wsX6_leastOf rmX6_leastOf).room s m args below meth c H locs 0 0 Q (F0 m 28 ls [.int v3, .ref h]) := by
    intro v3 H locs ls hf I hl
    replace hf := (fX6_leastOf_j28_e _ _ _ _ _).symm.trans hf
    obtain ⟨r5, F6, hg4, hf⟩ := x_b2E hf
    refine x_cA (As := [.int v3]) (rest := []) (st' := [.int r5]) (ws' := (wX6 cI cC cZ h a F6 G)) S I (tX6_goesWell l D cI cC cZ h a F G v3 (r5, F6) hg4) (cwV 1 S.2.2.2.2 gX6_leastOf_X6_goesWell rfl rfl rfl (by decide +kernel) ⟨Nat.le_of_ble_eq_true rfl, Nat.le_of_ble_eq_true rfl⟩) 0 5 rfl rfl rfl rfl hl rfl (Nat.le_of_ble_eq_true rfl) ⟨Nat.zero_le _, Nat.zero_le _⟩ rfl dX6_leastOf_28 (fun H locs I => ?_)
    refine lv_if_ne (tgt := 36) S.1 S.2.1 dX6_leastOf_31 (by decide) (fun c7 => ?_) (fun c7 => ?_)
    · replace hf := x_ifF hf c7
      refine lv_iconst (v := (-1)) S.1 S.2.1 dX6_leastOf_36 (by decide) ?_
      refine lv_istore (lv' := [(4, .int (-1)), (0, .ref h), (1, .int p1), (2, .int p2)]) S.1 S.2.1 dX6_leastOf_37 hl (by decide) rfl (fun ls hl => ?_)
      refine lv_iconst (v := 0) S.1 S.2.1 dX6_leastOf_39 (by decide) ?_
      refine lv_istore (lv' := [(5, .int 0), (4, .int (-1)), (0, .ref h), (1, .int p1), (2, .int p2)]) S.1 S.2.1 dX6_leastOf_40 hl (by decide) rfl (fun ls hl => ?_)
      have hl42 : ∀ (n42 : Nat), ∀ (v8 : Int32) (v9 : Int32) (H : Heap) (locs : List Loc) (ls : Array Slot), (fX6_leastOf_l42 F6 G p2 p1 n42) v8 v9 = some res → xI D A s (wX6 cI cC cZ h a F6 G) (xT cI cC cZ) H locs → lv_has ls 7 [(5, .int v9), (4, .int v8), (0, .ref h), (1, .int p1), (2, .int p2)] → W p l e (headSpec wsX6_leastOf rmX6_leastOf).room s m args below meth c H locs 0 0 Q (F0 m 42 ls []) := by
        intro n42
        induction n42 with
        | zero =>
          intro v8 v9 H locs ls hf I hl
          cases (fX6_leastOf_l42_z _ _ _ _ _ _).symm.trans hf
        | succ n42 ih42 =>
          intro v8 v9 H locs ls hf I hl
          replace hf := (fX6_leastOf_l42_e _ _ _ _ _ _ _).symm.trans hf
          refine lv_iload S.1 S.2.1 dX6_leastOf_42 (lv_at hl 0 rfl) ?_
          refine lv_iload_n S.1 S.2.1 dX6_leastOf_44 rfl (lv_at hl 4 rfl) ?_
          refine lv_icmp_gt (tgt := 117) S.1 S.2.1 dX6_leastOf_45 (by decide) (fun c10 => ?_) (fun c10 => ?_)
          · replace hf := x_ifT hf c10
            refine lv_iload S.1 S.2.1 dX6_leastOf_117 (lv_at hl 1 rfl) ?_
            exact x_ri E rfl rfl hf rfl I rfl dX6_leastOf_119
          · replace hf := x_ifF hf c10
            refine lv_iload S.1 S.2.1 dX6_leastOf_48 (lv_at hl 0 rfl) ?_
            refine lv_iload_n S.1 S.2.1 dX6_leastOf_50 rfl (lv_at hl 4 rfl) ?_
            refine lv_iconst (v := (-1)) S.1 S.2.1 dX6_leastOf_51 (by decide) ?_
            refine lv_ixor S.1 S.2.1 dX6_leastOf_52 ?_
            refine lv_iand S.1 S.2.1 dX6_leastOf_53 ?_
            have hj81 : ∀ (v11 : Int32) (H : Heap) (locs : List Loc) (ls : Array Slot), (fX6_leastOf_j81 (fX6_leastOf_l42 F6 G p2 p1 n42) F6 G v9 v8 p1) v11 = some res → xI D A s (wX6 cI cC cZ h a F6 G) (xT cI cC cZ) H locs → lv_has ls 7 [(5, .int v9), (4, .int v8), (0, .ref h), (1, .int p1), (2, .int p2)] → W p l e (headSpec wsX6_leastOf rmX6_leastOf).room s m args below meth c H locs 0 0 Q (F0 m 81 ls [.int v11]) := by
              intro v11 H locs ls hf I hl
              replace hf := (fX6_leastOf_j81_e _ _ _ _ _ _ _).symm.trans hf
              refine lv_istore (lv' := [(6, .int v11), (5, .int v9), (4, .int v8), (0, .ref h), (1, .int p1), (2, .int p2)]) S.1 S.2.1 dX6_leastOf_81 hl (by decide) rfl (fun ls hl => ?_)
              refine lv_iload S.1 S.2.1 dX6_leastOf_83 (lv_at hl 0 rfl) ?_
              have hj109 : ∀ (v12 : Int32) (H : Heap) (locs : List Loc) (ls : Array Slot), (fX6_leastOf_j109 (fX6_leastOf_l42 F6 G p2 p1 n42) v9) v12 = some res → xI D A s (wX6 cI cC cZ h a F6 G) (xT cI cC cZ) H locs → lv_has ls 7 [(5, .int v9), (0, .ref h), (1, .int p1), (2, .int p2)] → W p l e (headSpec wsX6_leastOf rmX6_leastOf).room s m args below meth c H locs 0 0 Q (F0 m 109 ls [.int v12]) := by
                intro v12 H locs ls hf I hl
                replace hf := (fX6_leastOf_j109_e _ _ _).symm.trans hf
                refine lv_istore (lv' := [(4, .int v12), (5, .int v9), (0, .ref h), (1, .int p1), (2, .int p2)]) S.1 S.2.1 dX6_leastOf_109 hl (by decide) rfl (fun ls hl => ?_)
                refine lv_iinc (v := (v9 + 1)) (lv' := [(5, .int (v9 + 1)), (4, .int v12), (0, .ref h), (1, .int p1), (2, .int p2)]) S.1 S.2.1 dX6_leastOf_111 hl (k := 1) rfl rfl (by decide) rfl (fun ls hl => ?_)
                refine lv_goto (tgt := 42) S.1 S.2.1 dX6_leastOf_114 (by decide) ?_
                exact ih42 v12 (v9 + 1) _ _ _ hf I (lv_sub hl [0, 1, 2, 3, 4] rfl)
              have hj107 : ∀  (H : Heap) (locs : List Loc) (ls : Array Slot), (fX6_leastOf_j107 (fX6_leastOf_l42 F6 G p2 p1 n42) v9 v8) = some res → xI D A s (wX6 cI cC cZ h a F6 G) (xT cI cC cZ) H locs → lv_has ls 7 [(5, .int v9), (4, .int v8), (0, .ref h), (1, .int p1), (2, .int p2)] → W p l e (headSpec wsX6_leastOf rmX6_leastOf).room s m args below meth c H locs 0 0 Q (F0 m 107 ls []) := by
                intro  H locs ls hf I hl
                replace hf := (fX6_leastOf_j107_e _ _ _).symm.trans hf
                refine lv_iload S.1 S.2.1 dX6_leastOf_107 (lv_at hl 1 rfl) ?_
                exact hj109 v8 _ _ _ hf I (lv_sub hl [0, 2, 3, 4] rfl)
              refine lv_if_eq (tgt := 107) S.1 S.2.1 dX6_leastOf_85 (by decide) (fun c13 => ?_) (fun c13 => ?_)
              · replace hf := x_ifT hf c13
                exact hj107 _ _ _ hf I (lv_sub hl [1, 2, 3, 4, 5] rfl)
              · replace hf := x_ifF hf c13
                refine lv_aload_n S.1 S.2.1 dX6_leastOf_88 rfl (lv_at hl 3 rfl) ?_
                refine lv_iload S.1 S.2.1 dX6_leastOf_89 (lv_at hl 1 rfl) ?_
                obtain ⟨r15, hg14, hf⟩ := x_b1E hf
                refine x_cA (As := [.int v9]) (rest := []) (st' := [.int r15]) (ws' := (wX6 cI cC cZ h a F6 G)) S I (tX6_closed l D cI cC cZ h a F6 G v9 r15 hg14) (cwV 1 S.2.2.2.2 gX6_leastOf_X6_closed rfl rfl rfl (by decide +kernel) ⟨Nat.le_of_ble_eq_true rfl, Nat.le_of_ble_eq_true rfl⟩) 0 5 rfl rfl rfl rfl hl rfl (Nat.le_of_ble_eq_true rfl) ⟨Nat.zero_le _, Nat.zero_le _⟩ rfl dX6_leastOf_91 (fun H locs I => ?_)
                refine lv_iload_n S.1 S.2.1 dX6_leastOf_94 rfl (lv_at hl 4 rfl) ?_
                refine lv_ishr S.1 S.2.1 dX6_leastOf_95 ?_
                refine lv_iconst (v := 1) S.1 S.2.1 dX6_leastOf_96 (by decide) ?_
                refine lv_iand S.1 S.2.1 dX6_leastOf_97 ?_
                refine lv_iconst (v := 1) S.1 S.2.1 dX6_leastOf_98 (by decide) ?_
                refine lv_icmp_ne (tgt := 107) S.1 S.2.1 dX6_leastOf_99 (by decide) (fun c16 => ?_) (fun c16 => ?_)
                · replace hf := x_ifF hf c16
                  exact hj107 _ _ _ hf I (lv_sub hl [1, 2, 3, 4, 5] rfl)
                · replace hf := x_ifT hf c16
                  refine lv_iload S.1 S.2.1 dX6_leastOf_102 (lv_at hl 1 rfl) ?_
                  refine lv_goto (tgt := 109) S.1 S.2.1 dX6_leastOf_104 (by decide) ?_
                  exact hj109 v9 _ _ _ hf I (lv_sub hl [1, 3, 4, 5] rfl)
            have hj80 : ∀  (H : Heap) (locs : List Loc) (ls : Array Slot), (fX6_leastOf_j80 (fX6_leastOf_l42 F6 G p2 p1 n42) F6 G v9 v8 p1) = some res → xI D A s (wX6 cI cC cZ h a F6 G) (xT cI cC cZ) H locs → lv_has ls 7 [(5, .int v9), (4, .int v8), (0, .ref h), (1, .int p1), (2, .int p2)] → W p l e (headSpec wsX6_leastOf rmX6_leastOf).room s m args below meth c H locs 0 0 Q (F0 m 80 ls []) := by
              intro  H locs ls hf I hl
              replace hf := (fX6_leastOf_j80_e _ _ _ _ _ _).symm.trans hf
              refine lv_iconst (v := 0) S.1 S.2.1 dX6_leastOf_80 (by decide) ?_
              exact hj81 0 _ _ _ hf I (lv_sub hl [0, 1, 2, 3, 4] rfl)
            refine lv_if_ne (tgt := 80) S.1 S.2.1 dX6_leastOf_54 (by decide) (fun c17 => ?_) (fun c17 => ?_)
            · replace hf := x_ifF hf c17
              exact hj80 _ _ _ hf I (lv_sub hl [0, 1, 2, 3, 4] rfl)
            · replace hf := x_ifT hf c17
              refine lv_iload S.1 S.2.1 dX6_leastOf_57 (lv_at hl 1 rfl) ?_
              refine lv_iconst (v := (-1)) S.1 S.2.1 dX6_leastOf_59 (by decide) ?_
              have hj76 : ∀  (H : Heap) (locs : List Loc) (ls : Array Slot), (fX6_leastOf_j76 (fX6_leastOf_l42 F6 G p2 p1 n42) F6 G v9 v8 p1) = some res → xI D A s (wX6 cI cC cZ h a F6 G) (xT cI cC cZ) H locs → lv_has ls 7 [(5, .int v9), (4, .int v8), (0, .ref h), (1, .int p1), (2, .int p2)] → W p l e (headSpec wsX6_leastOf rmX6_leastOf).room s m args below meth c H locs 0 0 Q (F0 m 76 ls []) := by
                intro  H locs ls hf I hl
                replace hf := (fX6_leastOf_j76_e _ _ _ _ _ _).symm.trans hf
                refine lv_iconst (v := 1) S.1 S.2.1 dX6_leastOf_76 (by decide) ?_
                refine lv_goto (tgt := 81) S.1 S.2.1 dX6_leastOf_77 (by decide) ?_
                exact hj81 1 _ _ _ hf I (lv_sub hl [0, 1, 2, 3, 4] rfl)
              refine lv_icmp_eq (tgt := 76) S.1 S.2.1 dX6_leastOf_60 (by decide) (fun c18 => ?_) (fun c18 => ?_)
              · replace hf := x_ifT hf c18
                exact hj76 _ _ _ hf I (lv_sub hl [0, 1, 2, 3, 4] rfl)
              · replace hf := x_ifF hf c18
                refine lv_iload S.1 S.2.1 dX6_leastOf_63 (lv_at hl 0 rfl) ?_
                obtain ⟨r20, hg19, hf⟩ := x_b1E hf
                refine x_c0 (As := [.int v9]) (rest := []) (st' := [.int r20]) S I rfl (tX6_bits l D cI cC cZ v9 r20 hg19) (va_cwS 1 S.2.2.2.2 gX6_leastOf_X6_bits rfl rfl rfl (by decide +kernel) ⟨Nat.le_of_ble_eq_true rfl, Nat.le_of_ble_eq_true rfl⟩) hl rfl (Nat.le_of_ble_eq_true rfl) ⟨Nat.zero_le _, Nat.zero_le _⟩ rfl dX6_leastOf_65 (fun H locs I => ?_)
                refine lv_iload S.1 S.2.1 dX6_leastOf_68 (lv_at hl 1 rfl) ?_
                obtain ⟨r22, hg21, hf⟩ := x_b1E hf
                refine x_c0 (As := [.int v8]) (rest := [.int r20]) (st' := [.int r22, .int r20]) S I rfl (tX6_bits l D cI cC cZ v8 r22 hg21) (va_cwS 1 S.2.2.2.2 gX6_leastOf_X6_bits rfl rfl rfl (by decide +kernel) ⟨Nat.le_of_ble_eq_true rfl, Nat.le_of_ble_eq_true rfl⟩) hl rfl (Nat.le_of_ble_eq_true rfl) ⟨Nat.zero_le _, Nat.zero_le _⟩ rfl dX6_leastOf_70 (fun H locs I => ?_)
                refine lv_icmp_ge (tgt := 80) S.1 S.2.1 dX6_leastOf_73 (by decide) (fun c23 => ?_) (fun c23 => ?_)
                · replace hf := x_ifT hf c23
                  exact hj80 _ _ _ hf I (lv_sub hl [0, 1, 2, 3, 4] rfl)
                · replace hf := x_ifF hf c23
                  exact hj76 _ _ _ hf I (lv_sub hl [0, 1, 2, 3, 4] rfl)
      exact hl42 4096 (-1) 0 _ _ _ hf I (lv_sub hl [0, 1, 2, 3, 4] rfl)
    · replace hf := x_ifT hf c7
      refine lv_iconst (v := 0) S.1 S.2.1 dX6_leastOf_34 (by decide) ?_
      exact x_ri E rfl rfl hf rfl I rfl dX6_leastOf_35
  refine lv_if_ne (tgt := 15) S.1 S.2.1 dX6_leastOf_8 (by decide) (fun c24 => ?_) (fun c24 => ?_)
  · replace hf := x_ifF hf c24
    refine lv_aload_n S.1 S.2.1 dX6_leastOf_15 rfl (lv_at hl 1 rfl) ?_
    refine lv_iload_n S.1 S.2.1 dX6_leastOf_16 rfl (lv_at hl 3 rfl) ?_
    obtain ⟨r26, hg25, hf⟩ := x_b1E hf
    refine x_cA (As := [.int p2]) (rest := [.ref h]) (st' := [.int r26, .ref h]) (ws' := (wX6 cI cC cZ h a F G)) S I (tX6_isSet l D cI cC cZ h a F G p2 r26 hg25) (cwV 1 S.2.2.2.2 gX6_leastOf_X6_isSet rfl rfl rfl (by decide +kernel) ⟨Nat.le_of_ble_eq_true rfl, Nat.le_of_ble_eq_true rfl⟩) 0 5 rfl rfl rfl rfl hl rfl (Nat.le_of_ble_eq_true rfl) ⟨Nat.zero_le _, Nat.zero_le _⟩ rfl dX6_leastOf_17 (fun H locs I => ?_)
    refine lv_if_eq (tgt := 27) S.1 S.2.1 dX6_leastOf_20 (by decide) (fun c27 => ?_) (fun c27 => ?_)
    · replace hf := x_ifT hf c27
      refine lv_iconst (v := 2) S.1 S.2.1 dX6_leastOf_27 (by decide) ?_
      exact hj28 2 _ _ _ hf I (lv_sub hl [1, 2, 3] rfl)
    · replace hf := x_ifF hf c27
      refine lv_iconst (v := 0) S.1 S.2.1 dX6_leastOf_23 (by decide) ?_
      refine lv_goto (tgt := 28) S.1 S.2.1 dX6_leastOf_24 (by decide) ?_
      exact hj28 0 _ _ _ hf I (lv_sub hl [1, 2, 3] rfl)
  · replace hf := x_ifT hf c24
    refine lv_iconst (v := 1) S.1 S.2.1 dX6_leastOf_11 (by decide) ?_
    refine lv_goto (tgt := 28) S.1 S.2.1 dX6_leastOf_12 (by decide) ?_
    exact hj28 1 _ _ _ hf I (lv_sub hl [1, 2, 3] rfl)
set_option maxHeartbeats 4000000 in
set_option maxRecDepth 100000 in
theorem tX6_least (l : Launch) (D : va_G) (cI cC cZ : ClassId) (h : Nat) (a : Nat → Nat) (F : xF) (G : xG) (p1 p2 : Int32) (res : Int32 × xF) (hf : fX6_least F G p1 p2 = some res) : xC l yX6_least wsX6_least rmX6_least D [.ref h, .int p1, .int p2] (wX6 cI cC cZ h a F G) (fun t => (wX6 cI cC cZ h a t.2 G)) (xT cI cC cZ) (fun t => some (.int t.1)) res := by
  refine x_of (cc := cX6_least) (maxL := 3) (ret := (some .int)) (by decide) rfl (Nat.le_of_ble_eq_true rfl) ?_
  intro p e s m args below meth c A Q ls S I E hl
  replace hl : lv_has ls 3 [(0, .ref h), (1, .int p1), (2, .int p2)] := hl
  replace hf := (fX6_least_e _ _ _ _).symm.trans hf
  refine lv_aload_n S.1 S.2.1 dX6_least_0 rfl (lv_at hl 0 rfl) ?_
  refine lv_iload_n S.1 S.2.1 dX6_least_1 rfl (lv_at hl 1 rfl) ?_
  refine lv_iload_n S.1 S.2.1 dX6_least_2 rfl (lv_at hl 2 rfl) ?_
  obtain ⟨r2, F3, hg1, hf⟩ := x_b2E hf
  refine x_cA (As := [.int p1, .int p2]) (rest := []) (st' := [.int r2]) (ws' := (wX6 cI cC cZ h a F3 G)) S I (tX6_leastOf l D cI cC cZ h a F G p1 p2 (r2, F3) hg1) (cwV 2 S.2.2.2.2 gX6_least_X6_leastOf rfl rfl rfl (by decide +kernel) ⟨Nat.le_of_ble_eq_true rfl, Nat.le_of_ble_eq_true rfl⟩) 0 5 rfl rfl rfl rfl hl rfl (Nat.le_of_ble_eq_true rfl) ⟨Nat.zero_le _, Nat.zero_le _⟩ rfl dX6_least_3 (fun H locs I => ?_)
  exact x_ri E rfl rfl hf rfl I rfl dX6_least_6
set_option maxHeartbeats 4000000 in
set_option maxRecDepth 100000 in
theorem tX6_leastAnew (l : Launch) (D : va_G) (cI cC cZ : ClassId) (h : Nat) (a : Nat → Nat) (F : xF) (G : xG) (p1 p2 : Int32) (res : Int32 × xF) (hf : fX6_leastAnew F G p1 p2 = some res) : xC l yX6_leastAnew wsX6_leastAnew rmX6_leastAnew D [.ref h, .int p1, .int p2] (wX6 cI cC cZ h a F G) (fun t => (wX6 cI cC cZ h a t.2 G)) (xT cI cC cZ) (fun t => some (.int t.1)) res := by
  refine x_of (cc := cX6_leastAnew) (maxL := 3) (ret := (some .int)) (by decide) rfl (Nat.le_of_ble_eq_true rfl) ?_
  intro p e s m args below meth c A Q ls S I E hl
  replace hl : lv_has ls 3 [(0, .ref h), (1, .int p1), (2, .int p2)] := hl
  replace hf := (fX6_leastAnew_e _ _ _ _).symm.trans hf
  refine lv_aload_n S.1 S.2.1 dX6_leastAnew_0 rfl (lv_at hl 0 rfl) ?_
  refine lv_iload_n S.1 S.2.1 dX6_leastAnew_1 rfl (lv_at hl 1 rfl) ?_
  refine lv_iload_n S.1 S.2.1 dX6_leastAnew_2 rfl (lv_at hl 2 rfl) ?_
  obtain ⟨r2, F3, hg1, hf⟩ := x_b2E hf
  refine x_cA (As := [.int p1, .int p2]) (rest := []) (st' := [.int r2]) (ws' := (wX6 cI cC cZ h a F3 G)) S I (tX6_leastOf l D cI cC cZ h a F G p1 p2 (r2, F3) hg1) (cwV 2 S.2.2.2.2 gX6_leastAnew_X6_leastOf rfl rfl rfl (by decide +kernel) ⟨Nat.le_of_ble_eq_true rfl, Nat.le_of_ble_eq_true rfl⟩) 0 5 rfl rfl rfl rfl hl rfl (Nat.le_of_ble_eq_true rfl) ⟨Nat.zero_le _, Nat.zero_le _⟩ rfl dX6_leastAnew_3 (fun H locs I => ?_)
  exact x_ri E rfl rfl hf rfl I rfl dX6_leastAnew_6
set_option maxHeartbeats 4000000 in
set_option maxRecDepth 100000 in
theorem tX6_ofPrinciple (l : Launch) (D : va_G) (cI cC cZ : ClassId) (h : Nat) (a : Nat → Nat) (F : xF) (G : xG) (p1 p2 : Int32) (res : Int32 × xF) (hf : fX6_ofPrinciple F G p1 p2 = some res) : xC l yX6_ofPrinciple wsX6_ofPrinciple rmX6_ofPrinciple D [.ref h, .int p1, .int p2] (wX6 cI cC cZ h a F G) (fun t => (wX6 cI cC cZ h a t.2 G)) (xT cI cC cZ) (fun t => some (.int t.1)) res := by
  have kX6 : ∀ w ∈ u_ws RX6 TX6 32, w ∈ wsX6_ofPrinciple := by decide +kernel
  refine x_of (cc := cX6_ofPrinciple) (maxL := 7) (ret := (some .int)) (by decide) rfl (Nat.le_of_ble_eq_true rfl) ?_
  intro p e s m args below meth c A Q ls S I E hl
  replace hl : lv_has ls 7 [(0, .ref h), (1, .int p1), (2, .int p2)] := hl
  replace hf := (fX6_ofPrinciple_e _ _ _ _).symm.trans hf
  refine lv_aload_n S.1 S.2.1 dX6_ofPrinciple_0 rfl (lv_at hl 0 rfl) ?_
  refine lv_iload_n S.1 S.2.1 dX6_ofPrinciple_1 rfl (lv_at hl 1 rfl) ?_
  obtain ⟨r2, hg1, hf⟩ := x_b1E hf
  refine x_cA (As := [.int p1]) (rest := []) (st' := [.int r2]) (ws' := (wX6 cI cC cZ h a F G)) S I (tX6_isPrinciple l D cI cC cZ h a F G p1 r2 hg1) (cwV 1 S.2.2.2.2 gX6_ofPrinciple_X6_isPrinciple rfl rfl rfl (by decide +kernel) ⟨Nat.le_of_ble_eq_true rfl, Nat.le_of_ble_eq_true rfl⟩) 0 5 rfl rfl rfl rfl hl rfl (Nat.le_of_ble_eq_true rfl) ⟨Nat.zero_le _, Nat.zero_le _⟩ rfl dX6_ofPrinciple_2 (fun H locs I => ?_)
  refine lv_istore_n (lv' := [(3, .int r2), (0, .ref h), (1, .int p1), (2, .int p2)]) S.1 S.2.1 dX6_ofPrinciple_5 rfl hl (by decide) rfl (fun ls hl => ?_)
  refine lv_aload_n S.1 S.2.1 dX6_ofPrinciple_6 rfl (lv_at hl 1 rfl) ?_
  refine lv_iload_n S.1 S.2.1 dX6_ofPrinciple_7 rfl (lv_at hl 0 rfl) ?_
  have hj29 : ∀ (v3 : Int32) (H : Heap) (locs : List Loc) (ls : Array Slot), (fX6_ofPrinciple_j29 F G p2 p1) v3 = some res → xI D A s (wX6 cI cC cZ h a F G) (xT cI cC cZ) H locs → lv_has ls 7 [(0, .ref h), (1, .int p1), (2, .int p2)] → W p l e (headSpec wsX6_ofPrinciple rmX6_ofPrinciple).room s m args below meth c H locs 0 0 Q (F0 m 29 ls [.int v3, .ref h]) := by
    intro v3 H locs ls hf I hl
    replace hf := (fX6_ofPrinciple_j29_e _ _ _ _ _).symm.trans hf
    obtain ⟨r5, F6, hg4, hf⟩ := x_b2E hf
    refine x_cA (As := [.int v3]) (rest := []) (st' := [.int r5]) (ws' := (wX6 cI cC cZ h a F6 G)) S I (tX6_goesWell l D cI cC cZ h a F G v3 (r5, F6) hg4) (cwV 1 S.2.2.2.2 gX6_ofPrinciple_X6_goesWell rfl rfl rfl (by decide +kernel) ⟨Nat.le_of_ble_eq_true rfl, Nat.le_of_ble_eq_true rfl⟩) 0 5 rfl rfl rfl rfl hl rfl (Nat.le_of_ble_eq_true rfl) ⟨Nat.zero_le _, Nat.zero_le _⟩ rfl dX6_ofPrinciple_29 (fun H locs I => ?_)
    refine lv_if_ne (tgt := 37) S.1 S.2.1 dX6_ofPrinciple_32 (by decide) (fun c7 => ?_) (fun c7 => ?_)
    · replace hf := x_ifF hf c7
      refine lv_iconst (v := 0) S.1 S.2.1 dX6_ofPrinciple_37 (by decide) ?_
      refine lv_istore (lv' := [(4, .int 0), (0, .ref h), (1, .int p1), (2, .int p2)]) S.1 S.2.1 dX6_ofPrinciple_38 hl (by decide) rfl (fun ls hl => ?_)
      refine lv_iconst (v := 0) S.1 S.2.1 dX6_ofPrinciple_40 (by decide) ?_
      refine lv_istore (lv' := [(5, .int 0), (4, .int 0), (0, .ref h), (1, .int p1), (2, .int p2)]) S.1 S.2.1 dX6_ofPrinciple_41 hl (by decide) rfl (fun ls hl => ?_)
      have hx79 : ∀ (v8 : Int32) (H : Heap) (locs : List Loc) (ls : Array Slot), (fX6_ofPrinciple_x79 F6 G p2 p1) v8 = some res → xI D A s (wX6 cI cC cZ h a F6 G) (xT cI cC cZ) H locs → lv_has ls 7 [(4, .int v8), (0, .ref h), (1, .int p1), (2, .int p2)] → W p l e (headSpec wsX6_ofPrinciple rmX6_ofPrinciple).room s m args below meth c H locs 0 0 Q (F0 m 79 ls []) := by
        intro v8 H locs ls hf I hl
        replace hf := (fX6_ofPrinciple_x79_e _ _ _ _ _).symm.trans hf
        refine lv_iconst (v := 0) S.1 S.2.1 dX6_ofPrinciple_79 (by decide) ?_
        refine lv_istore (lv' := [(5, .int 0), (4, .int v8), (0, .ref h), (1, .int p1), (2, .int p2)]) S.1 S.2.1 dX6_ofPrinciple_80 hl (by decide) rfl (fun ls hl => ?_)
        refine lv_iconst (v := 0) S.1 S.2.1 dX6_ofPrinciple_82 (by decide) ?_
        refine lv_istore (lv' := [(6, .int 0), (5, .int 0), (4, .int v8), (0, .ref h), (1, .int p1), (2, .int p2)]) S.1 S.2.1 dX6_ofPrinciple_83 hl (by decide) rfl (fun ls hl => ?_)
        have hx116 : ∀ (v9 : Int32) (H : Heap) (locs : List Loc) (ls : Array Slot), (fX6_ofPrinciple_x116 G F6 p2 p1 v8) v9 = some res → xI D A s (wX6 cI cC cZ h a F6 G) (xT cI cC cZ) H locs → lv_has ls 7 [(5, .int v9), (4, .int v8), (0, .ref h), (1, .int p1), (2, .int p2)] → W p l e (headSpec wsX6_ofPrinciple rmX6_ofPrinciple).room s m args below meth c H locs 0 0 Q (F0 m 116 ls []) := by
          intro v9 H locs ls hf I hl
          replace hf := (fX6_ofPrinciple_x116_e _ _ _ _ _ _).symm.trans hf
          refine lv_iload_n S.1 S.2.1 dX6_ofPrinciple_116 rfl (lv_at hl 4 rfl) ?_
          refine lv_if_ne (tgt := 129) S.1 S.2.1 dX6_ofPrinciple_117 (by decide) (fun c10 => ?_) (fun c10 => ?_)
          · replace hf := x_ifF hf c10
            refine lv_iload_n S.1 S.2.1 dX6_ofPrinciple_129 rfl (lv_at hl 4 rfl) ?_
            refine lv_iconst (v := 1) S.1 S.2.1 dX6_ofPrinciple_130 (by decide) ?_
            refine lv_icmp_ne (tgt := 143) S.1 S.2.1 dX6_ofPrinciple_131 (by decide) (fun c11 => ?_) (fun c11 => ?_)
            · replace hf := x_ifF hf c11
              refine lv_iload_n S.1 S.2.1 dX6_ofPrinciple_143 rfl (lv_at hl 4 rfl) ?_
              refine lv_iconst (v := 2) S.1 S.2.1 dX6_ofPrinciple_144 (by decide) ?_
              refine lv_icmp_ne (tgt := 153) S.1 S.2.1 dX6_ofPrinciple_145 (by decide) (fun c12 => ?_) (fun c12 => ?_)
              · replace hf := x_ifF hf c12
                refine lv_iload S.1 S.2.1 dX6_ofPrinciple_153 (lv_at hl 0 rfl) ?_
                exact x_ri E rfl rfl hf rfl I rfl dX6_ofPrinciple_155
              · replace hf := x_ifT hf c12
                refine lv_iload S.1 S.2.1 dX6_ofPrinciple_148 (lv_at hl 1 rfl) ?_
                refine lv_goto (tgt := 155) S.1 S.2.1 dX6_ofPrinciple_150 (by decide) ?_
                exact x_ri E rfl rfl hf rfl I rfl dX6_ofPrinciple_155
            · replace hf := x_ifT hf c11
              refine lv_aload_n S.1 S.2.1 dX6_ofPrinciple_134 rfl (lv_at hl 2 rfl) ?_
              refine x_get (C := RX6) (T := TX6) (N := 32) (ci := 5) (v := .ref (a 20)) S kX6 rfl I 0 20 rfl (by decide) (by decide +kernel) rfl dX6_ofPrinciple_135 ?_
              refine lv_iload_n S.1 S.2.1 dX6_ofPrinciple_138 rfl (lv_at hl 3 rfl) ?_
              obtain ⟨hi13, hf⟩ := x_ldE hf
              refine x_iald (f := (G 20)) S I 15 0 rfl rfl hi13 dX6_ofPrinciple_139 ?_
              refine lv_goto (tgt := 155) S.1 S.2.1 dX6_ofPrinciple_140 (by decide) ?_
              exact x_ri E rfl rfl hf rfl I rfl dX6_ofPrinciple_155
          · replace hf := x_ifT hf c10
            refine lv_aload_n S.1 S.2.1 dX6_ofPrinciple_120 rfl (lv_at hl 2 rfl) ?_
            refine x_get (C := RX6) (T := TX6) (N := 32) (ci := 5) (v := .ref (a 19)) S kX6 rfl I 0 19 rfl (by decide) (by decide +kernel) rfl dX6_ofPrinciple_121 ?_
            refine lv_iload_n S.1 S.2.1 dX6_ofPrinciple_124 rfl (lv_at hl 3 rfl) ?_
            obtain ⟨hi14, hf⟩ := x_ldE hf
            refine x_iald (f := (G 19)) S I 14 0 rfl rfl hi14 dX6_ofPrinciple_125 ?_
            refine lv_goto (tgt := 155) S.1 S.2.1 dX6_ofPrinciple_126 (by decide) ?_
            exact x_ri E rfl rfl hf rfl I rfl dX6_ofPrinciple_155
        have hl85 : ∀ (n85 : Nat), ∀ (v15 : Int32) (v16 : Int32) (H : Heap) (locs : List Loc) (ls : Array Slot), (fX6_ofPrinciple_l85 F6 G p2 p1 v8 n85) v15 v16 = some res → xI D A s (wX6 cI cC cZ h a F6 G) (xT cI cC cZ) H locs → lv_has ls 7 [(6, .int v16), (5, .int v15), (4, .int v8), (0, .ref h), (1, .int p1), (2, .int p2)] → W p l e (headSpec wsX6_ofPrinciple rmX6_ofPrinciple).room s m args below meth c H locs 0 0 Q (F0 m 85 ls []) := by
          intro n85
          induction n85 with
          | zero =>
            intro v15 v16 H locs ls hf I hl
            cases (fX6_ofPrinciple_l85_z _ _ _ _ _ _ _).symm.trans hf
          | succ n85 ih85 =>
            intro v15 v16 H locs ls hf I hl
            replace hf := (fX6_ofPrinciple_l85_e _ _ _ _ _ _ _ _).symm.trans hf
            refine lv_iload S.1 S.2.1 dX6_ofPrinciple_85 (lv_at hl 0 rfl) ?_
            refine lv_aload_n S.1 S.2.1 dX6_ofPrinciple_87 rfl (lv_at hl 3 rfl) ?_
            refine x_get (C := RX6) (T := TX6) (N := 32) (ci := 5) (v := .int (F6 24)) S kX6 rfl I 0 24 rfl (by decide) (by decide +kernel) rfl dX6_ofPrinciple_88 ?_
            refine lv_icmp_ge (tgt := 116) S.1 S.2.1 dX6_ofPrinciple_91 (by decide) (fun c17 => ?_) (fun c17 => ?_)
            · replace hf := x_ifT hf c17
              exact hx116 v15 _ _ _ hf I (lv_sub hl [1, 2, 3, 4, 5] rfl)
            · replace hf := x_ifF hf c17
              refine lv_iload S.1 S.2.1 dX6_ofPrinciple_94 (lv_at hl 1 rfl) ?_
              refine lv_aload_n S.1 S.2.1 dX6_ofPrinciple_96 rfl (lv_at hl 3 rfl) ?_
              refine x_get (C := RX6) (T := TX6) (N := 32) (ci := 5) (v := .ref (a 25)) S kX6 rfl I 0 25 rfl (by decide) (by decide +kernel) rfl dX6_ofPrinciple_97 ?_
              refine lv_iload S.1 S.2.1 dX6_ofPrinciple_100 (lv_at hl 0 rfl) ?_
              obtain ⟨hi18, hf⟩ := x_ldE hf
              refine x_iald (f := (G 25)) S I 18 0 rfl rfl hi18 dX6_ofPrinciple_102 ?_
              refine lv_iload_n S.1 S.2.1 dX6_ofPrinciple_103 rfl (lv_at hl 4 rfl) ?_
              refine lv_ishr S.1 S.2.1 dX6_ofPrinciple_104 ?_
              refine lv_iconst (v := 1) S.1 S.2.1 dX6_ofPrinciple_105 (by decide) ?_
              refine lv_iand S.1 S.2.1 dX6_ofPrinciple_106 ?_
              refine lv_iadd S.1 S.2.1 dX6_ofPrinciple_107 ?_
              refine lv_istore (lv' := [(5, .int (v15 + ((x_shr ((G 25) v16.toNatClampNeg) p1) &&& 1))), (6, .int v16), (4, .int v8), (0, .ref h), (1, .int p1), (2, .int p2)]) S.1 S.2.1 dX6_ofPrinciple_108 hl (by decide) rfl (fun ls hl => ?_)
              refine lv_iinc (v := (v16 + 1)) (lv' := [(6, .int (v16 + 1)), (5, .int (v15 + ((x_shr ((G 25) v16.toNatClampNeg) p1) &&& 1))), (4, .int v8), (0, .ref h), (1, .int p1), (2, .int p2)]) S.1 S.2.1 dX6_ofPrinciple_110 hl (k := 1) rfl rfl (by decide) rfl (fun ls hl => ?_)
              refine lv_goto (tgt := 85) S.1 S.2.1 dX6_ofPrinciple_113 (by decide) ?_
              exact ih85 (v15 + ((x_shr ((G 25) v16.toNatClampNeg) p1) &&& 1)) (v16 + 1) _ _ _ hf I (lv_sub hl [0, 1, 2, 3, 4, 5] rfl)
        exact hl85 4096 0 0 _ _ _ hf I (lv_sub hl [0, 1, 2, 3, 4, 5] rfl)
      have hl43 : ∀ (n43 : Nat), ∀ (v19 : Int32) (v20 : Int32) (H : Heap) (locs : List Loc) (ls : Array Slot), (fX6_ofPrinciple_l43 F6 G p2 p1 n43) v19 v20 = some res → xI D A s (wX6 cI cC cZ h a F6 G) (xT cI cC cZ) H locs → lv_has ls 7 [(5, .int v20), (4, .int v19), (0, .ref h), (1, .int p1), (2, .int p2)] → W p l e (headSpec wsX6_ofPrinciple rmX6_ofPrinciple).room s m args below meth c H locs 0 0 Q (F0 m 43 ls []) := by
        intro n43
        induction n43 with
        | zero =>
          intro v19 v20 H locs ls hf I hl
          cases (fX6_ofPrinciple_l43_z _ _ _ _ _ _).symm.trans hf
        | succ n43 ih43 =>
          intro v19 v20 H locs ls hf I hl
          replace hf := (fX6_ofPrinciple_l43_e _ _ _ _ _ _ _).symm.trans hf
          refine lv_iload S.1 S.2.1 dX6_ofPrinciple_43 (lv_at hl 0 rfl) ?_
          refine lv_aload_n S.1 S.2.1 dX6_ofPrinciple_45 rfl (lv_at hl 2 rfl) ?_
          refine x_get (C := RX6) (T := TX6) (N := 32) (ci := 5) (v := .int (F6 21)) S kX6 rfl I 0 21 rfl (by decide) (by decide +kernel) rfl dX6_ofPrinciple_46 ?_
          refine lv_icmp_ge (tgt := 79) S.1 S.2.1 dX6_ofPrinciple_49 (by decide) (fun c21 => ?_) (fun c21 => ?_)
          · replace hf := x_ifT hf c21
            exact hx79 v19 _ _ _ hf I (lv_sub hl [1, 2, 3, 4] rfl)
          · replace hf := x_ifF hf c21
            refine lv_iload S.1 S.2.1 dX6_ofPrinciple_52 (lv_at hl 1 rfl) ?_
            refine lv_aload_n S.1 S.2.1 dX6_ofPrinciple_54 rfl (lv_at hl 2 rfl) ?_
            refine x_get (C := RX6) (T := TX6) (N := 32) (ci := 5) (v := .ref (a 23)) S kX6 rfl I 0 23 rfl (by decide) (by decide +kernel) rfl dX6_ofPrinciple_55 ?_
            refine lv_iload S.1 S.2.1 dX6_ofPrinciple_58 (lv_at hl 0 rfl) ?_
            obtain ⟨hi22, hf⟩ := x_ldE hf
            refine x_iald (f := (G 23)) S I 17 0 rfl rfl hi22 dX6_ofPrinciple_60 ?_
            refine lv_iload_n S.1 S.2.1 dX6_ofPrinciple_61 rfl (lv_at hl 3 rfl) ?_
            have hj70 : ∀ (v23 : Int32) (H : Heap) (locs : List Loc) (ls : Array Slot), (fX6_ofPrinciple_j70 (fX6_ofPrinciple_l43 F6 G p2 p1 n43) v19 v20) v23 = some res → xI D A s (wX6 cI cC cZ h a F6 G) (xT cI cC cZ) H locs → lv_has ls 7 [(5, .int v20), (0, .ref h), (1, .int p1), (2, .int p2)] → W p l e (headSpec wsX6_ofPrinciple rmX6_ofPrinciple).room s m args below meth c H locs 0 0 Q (F0 m 70 ls [.int v23, .int v19]) := by
              intro v23 H locs ls hf I hl
              replace hf := (fX6_ofPrinciple_j70_e _ _ _ _).symm.trans hf
              refine lv_iadd S.1 S.2.1 dX6_ofPrinciple_70 ?_
              refine lv_istore (lv' := [(4, .int (v19 + v23)), (5, .int v20), (0, .ref h), (1, .int p1), (2, .int p2)]) S.1 S.2.1 dX6_ofPrinciple_71 hl (by decide) rfl (fun ls hl => ?_)
              refine lv_iinc (v := (v20 + 1)) (lv' := [(5, .int (v20 + 1)), (4, .int (v19 + v23)), (0, .ref h), (1, .int p1), (2, .int p2)]) S.1 S.2.1 dX6_ofPrinciple_73 hl (k := 1) rfl rfl (by decide) rfl (fun ls hl => ?_)
              refine lv_goto (tgt := 43) S.1 S.2.1 dX6_ofPrinciple_76 (by decide) ?_
              exact ih43 (v19 + v23) (v20 + 1) _ _ _ hf I (lv_sub hl [0, 1, 2, 3, 4] rfl)
            refine lv_icmp_ne (tgt := 69) S.1 S.2.1 dX6_ofPrinciple_62 (by decide) (fun c24 => ?_) (fun c24 => ?_)
            · replace hf := x_ifF hf c24
              refine lv_iconst (v := 0) S.1 S.2.1 dX6_ofPrinciple_69 (by decide) ?_
              exact hj70 0 _ _ _ hf I (lv_sub hl [0, 2, 3, 4] rfl)
            · replace hf := x_ifT hf c24
              refine lv_iconst (v := 1) S.1 S.2.1 dX6_ofPrinciple_65 (by decide) ?_
              refine lv_goto (tgt := 70) S.1 S.2.1 dX6_ofPrinciple_66 (by decide) ?_
              exact hj70 1 _ _ _ hf I (lv_sub hl [0, 2, 3, 4] rfl)
      exact hl43 4096 0 0 _ _ _ hf I (lv_sub hl [0, 1, 2, 3, 4] rfl)
    · replace hf := x_ifT hf c7
      refine lv_iconst (v := 0) S.1 S.2.1 dX6_ofPrinciple_35 (by decide) ?_
      exact x_ri E rfl rfl hf rfl I rfl dX6_ofPrinciple_36
  refine lv_if_ne (tgt := 15) S.1 S.2.1 dX6_ofPrinciple_8 (by decide) (fun c25 => ?_) (fun c25 => ?_)
  · replace hf := x_ifF hf c25
    refine lv_iload_n S.1 S.2.1 dX6_ofPrinciple_15 rfl (lv_at hl 3 rfl) ?_
    refine lv_iconst (v := 0) S.1 S.2.1 dX6_ofPrinciple_16 (by decide) ?_
    refine lv_iconst (v := 3) S.1 S.2.1 dX6_ofPrinciple_17 (by decide) ?_
    obtain ⟨r27, hg26, hf⟩ := x_b1E hf
    refine x_c0 (As := [.int p2, .int 0, .int 3]) (rest := [.ref h]) (st' := [.int r27, .ref h]) S I rfl (tX6_in l D cI cC cZ p2 0 3 r27 hg26) (va_cwS 3 S.2.2.2.2 gX6_ofPrinciple_X6_in rfl rfl rfl (by decide +kernel) ⟨Nat.le_of_ble_eq_true rfl, Nat.le_of_ble_eq_true rfl⟩) hl rfl (Nat.le_of_ble_eq_true rfl) ⟨Nat.zero_le _, Nat.zero_le _⟩ rfl dX6_ofPrinciple_18 (fun H locs I => ?_)
    refine lv_if_eq (tgt := 28) S.1 S.2.1 dX6_ofPrinciple_21 (by decide) (fun c28 => ?_) (fun c28 => ?_)
    · replace hf := x_ifT hf c28
      refine lv_iconst (v := 2) S.1 S.2.1 dX6_ofPrinciple_28 (by decide) ?_
      exact hj29 2 _ _ _ hf I (lv_sub hl [1, 2, 3] rfl)
    · replace hf := x_ifF hf c28
      refine lv_iconst (v := 0) S.1 S.2.1 dX6_ofPrinciple_24 (by decide) ?_
      refine lv_goto (tgt := 29) S.1 S.2.1 dX6_ofPrinciple_25 (by decide) ?_
      exact hj29 0 _ _ _ hf I (lv_sub hl [1, 2, 3] rfl)
  · replace hf := x_ifT hf c25
    refine lv_iconst (v := 1) S.1 S.2.1 dX6_ofPrinciple_11 (by decide) ?_
    refine lv_goto (tgt := 29) S.1 S.2.1 dX6_ofPrinciple_12 (by decide) ?_
    exact hj29 1 _ _ _ hf I (lv_sub hl [1, 2, 3] rfl)
set_option maxHeartbeats 4000000 in
set_option maxRecDepth 100000 in
theorem tX6_isProblem (l : Launch) (D : va_G) (cI cC cZ : ClassId) (h : Nat) (a : Nat → Nat) (F : xF) (G : xG) (p1 : Int32) (res : Int32) (hf : fX6_isProblem F p1 = some res) : xC l yX6_isProblem wsX6_isProblem rmX6_isProblem D [.ref h, .int p1] (wX6 cI cC cZ h a F G) (fun _ => (wX6 cI cC cZ h a F G)) (xT cI cC cZ) (fun t => some (.int t)) res := by
  have kX6 : ∀ w ∈ u_ws RX6 TX6 32, w ∈ wsX6_isProblem := by decide +kernel
  refine x_of (cc := cX6_isProblem) (maxL := 2) (ret := (some .boolean)) (by decide) rfl (Nat.le_of_ble_eq_true rfl) ?_
  intro p e s m args below meth c A Q ls S I E hl
  replace hl : lv_has ls 2 [(0, .ref h), (1, .int p1)] := hl
  replace hf := (fX6_isProblem_e _ _).symm.trans hf
  refine lv_iload_n S.1 S.2.1 dX6_isProblem_0 rfl (lv_at hl 1 rfl) ?_
  refine lv_iconst (v := 0) S.1 S.2.1 dX6_isProblem_1 (by decide) ?_
  refine lv_aload_n S.1 S.2.1 dX6_isProblem_2 rfl (lv_at hl 0 rfl) ?_
  refine x_get (C := RX6) (T := TX6) (N := 32) (ci := 5) (v := .int (F 27)) S kX6 rfl I 0 27 rfl (by decide) (by decide +kernel) rfl dX6_isProblem_3 ?_
  refine lv_iconst (v := 1) S.1 S.2.1 dX6_isProblem_6 (by decide) ?_
  refine lv_isub S.1 S.2.1 dX6_isProblem_7 ?_
  obtain ⟨r2, hg1, hf⟩ := x_b1E hf
  refine x_c0 (As := [.int p1, .int 0, .int ((F 27) - 1)]) (rest := []) (st' := [.int r2]) S I rfl (tX6_in l D cI cC cZ p1 0 ((F 27) - 1) r2 hg1) (va_cwS 3 S.2.2.2.2 gX6_isProblem_X6_in rfl rfl rfl (by decide +kernel) ⟨Nat.le_of_ble_eq_true rfl, Nat.le_of_ble_eq_true rfl⟩) hl rfl (Nat.le_of_ble_eq_true rfl) ⟨Nat.zero_le _, Nat.zero_le _⟩ rfl dX6_isProblem_8 (fun H locs I => ?_)
  exact x_ri E rfl rfl hf rfl I rfl dX6_isProblem_11
set_option maxHeartbeats 4000000 in
set_option maxRecDepth 100000 in
theorem tX6_isSolved (l : Launch) (D : va_G) (cI cC cZ : ClassId) (p1 p2 p3 : Int32) (res : Int32) (hf : fX6_isSolved p1 p2 p3 = some res) : xC l yX6_isSolved wsX6_isSolved rmX6_isSolved D [.int p1, .int p2, .int p3] [] (fun _ => []) (xT cI cC cZ) (fun t => some (.int t)) res := by
  refine x_of (cc := cX6_isSolved) (maxL := 3) (ret := (some .boolean)) (by decide) rfl (Nat.le_of_ble_eq_true rfl) ?_
  intro p e s m args below meth c A Q ls S I E hl
  replace hl : lv_has ls 3 [(0, .int p1), (1, .int p2), (2, .int p3)] := hl
  replace hf := (fX6_isSolved_e _ _ _).symm.trans hf
  refine lv_iload_n S.1 S.2.1 dX6_isSolved_0 rfl (lv_at hl 0 rfl) ?_
  refine lv_iconst (v := 4) S.1 S.2.1 dX6_isSolved_1 (by decide) ?_
  refine lv_iload_n S.1 S.2.1 dX6_isSolved_2 rfl (lv_at hl 1 rfl) ?_
  refine lv_imul S.1 S.2.1 dX6_isSolved_3 ?_
  refine lv_iload_n S.1 S.2.1 dX6_isSolved_4 rfl (lv_at hl 2 rfl) ?_
  refine lv_iadd S.1 S.2.1 dX6_isSolved_5 ?_
  refine lv_ishr S.1 S.2.1 dX6_isSolved_6 ?_
  refine lv_iconst (v := 1) S.1 S.2.1 dX6_isSolved_7 (by decide) ?_
  refine lv_iand S.1 S.2.1 dX6_isSolved_8 ?_
  refine lv_iconst (v := 1) S.1 S.2.1 dX6_isSolved_9 (by decide) ?_
  refine lv_icmp_ne (tgt := 17) S.1 S.2.1 dX6_isSolved_10 (by decide) (fun c1 => ?_) (fun c1 => ?_)
  · replace hf := x_ifF hf c1
    refine lv_iconst (v := 0) S.1 S.2.1 dX6_isSolved_17 (by decide) ?_
    exact x_ri E rfl x_n0 hf rfl I rfl dX6_isSolved_18
  · replace hf := x_ifT hf c1
    refine lv_iconst (v := 1) S.1 S.2.1 dX6_isSolved_13 (by decide) ?_
    refine lv_goto (tgt := 18) S.1 S.2.1 dX6_isSolved_14 (by decide) ?_
    exact x_ri E rfl x_n1 hf rfl I rfl dX6_isSolved_18
set_option maxHeartbeats 4000000 in
set_option maxRecDepth 100000 in
theorem tX6_areAnswers (l : Launch) (D : va_G) (cI cC cZ : ClassId) (p1 p2 p3 : Int32) (res : Int32) (hf : fX6_areAnswers p1 p2 p3 = some res) : xC l yX6_areAnswers wsX6_areAnswers rmX6_areAnswers D [.int p1, .int p2, .int p3] [] (fun _ => []) (xT cI cC cZ) (fun t => some (.int t)) res := by
  refine x_of (cc := cX6_areAnswers) (maxL := 8) (ret := (some .boolean)) (by decide) rfl (Nat.le_of_ble_eq_true rfl) ?_
  intro p e s m args below meth c A Q ls S I E hl
  replace hl : lv_has ls 8 [(0, .int p1), (1, .int p2), (2, .int p3)] := hl
  replace hf := (fX6_areAnswers_e _ _ _).symm.trans hf
  refine lv_iload_n S.1 S.2.1 dX6_areAnswers_0 rfl (lv_at hl 0 rfl) ?_
  refine lv_istore_n (lv' := [(3, .int p1), (0, .int p1), (1, .int p2), (2, .int p3)]) S.1 S.2.1 dX6_areAnswers_1 rfl hl (by decide) rfl (fun ls hl => ?_)
  refine lv_iconst (v := 1) S.1 S.2.1 dX6_areAnswers_2 (by decide) ?_
  refine lv_istore (lv' := [(4, .int 1), (3, .int p1), (0, .int p1), (1, .int p2), (2, .int p3)]) S.1 S.2.1 dX6_areAnswers_3 hl (by decide) rfl (fun ls hl => ?_)
  refine lv_iconst (v := 0) S.1 S.2.1 dX6_areAnswers_5 (by decide) ?_
  refine lv_istore (lv' := [(5, .int 0), (4, .int 1), (3, .int p1), (0, .int p1), (1, .int p2), (2, .int p3)]) S.1 S.2.1 dX6_areAnswers_6 hl (by decide) rfl (fun ls hl => ?_)
  have hx92 : ∀ (v1 : Int32) (v2 : Int32) (H : Heap) (locs : List Loc) (ls : Array Slot), fX6_areAnswers_x92 v1 v2 = some res → xI D A s [] (xT cI cC cZ) H locs → lv_has ls 8 [(4, .int v2), (3, .int v1)] → W p l e (headSpec wsX6_areAnswers rmX6_areAnswers).room s m args below meth c H locs 0 0 Q (F0 m 92 ls []) := by
    intro v1 v2 H locs ls hf I hl
    replace hf := (fX6_areAnswers_x92_e _ _).symm.trans hf
    refine lv_iload S.1 S.2.1 dX6_areAnswers_92 (lv_at hl 0 rfl) ?_
    refine lv_if_eq (tgt := 105) S.1 S.2.1 dX6_areAnswers_94 (by decide) (fun c3 => ?_) (fun c3 => ?_)
    · replace hf := x_ifT hf c3
      refine lv_iconst (v := 0) S.1 S.2.1 dX6_areAnswers_105 (by decide) ?_
      exact x_ri E rfl x_n0 hf rfl I rfl dX6_areAnswers_106
    · replace hf := x_ifF hf c3
      refine lv_iload_n S.1 S.2.1 dX6_areAnswers_97 rfl (lv_at hl 1 rfl) ?_
      refine lv_if_ne (tgt := 105) S.1 S.2.1 dX6_areAnswers_98 (by decide) (fun c4 => ?_) (fun c4 => ?_)
      · replace hf := x_ifF hf c4
        refine lv_iconst (v := 0) S.1 S.2.1 dX6_areAnswers_105 (by decide) ?_
        exact x_ri E rfl x_n0 hf rfl I rfl dX6_areAnswers_106
      · replace hf := x_ifT hf c4
        refine lv_iconst (v := 1) S.1 S.2.1 dX6_areAnswers_101 (by decide) ?_
        refine lv_goto (tgt := 106) S.1 S.2.1 dX6_areAnswers_102 (by decide) ?_
        exact x_ri E rfl x_n1 hf rfl I rfl dX6_areAnswers_106
  have hl8 : ∀ (n8 : Nat), ∀ (v5 : Int32) (v6 : Int32) (v7 : Int32) (H : Heap) (locs : List Loc) (ls : Array Slot), (fX6_areAnswers_l8 p2 p3 p1 n8) v5 v6 v7 = some res → xI D A s [] (xT cI cC cZ) H locs → lv_has ls 8 [(5, .int v7), (4, .int v6), (3, .int v5), (0, .int p1), (1, .int p2), (2, .int p3)] → W p l e (headSpec wsX6_areAnswers rmX6_areAnswers).room s m args below meth c H locs 0 0 Q (F0 m 8 ls []) := by
    intro n8
    induction n8 with
    | zero =>
      intro v5 v6 v7 H locs ls hf I hl
      cases (fX6_areAnswers_l8_z _ _ _ _ _ _).symm.trans hf
    | succ n8 ih8 =>
      intro v5 v6 v7 H locs ls hf I hl
      replace hf := (fX6_areAnswers_l8_e _ _ _ _ _ _ _).symm.trans hf
      refine lv_iload S.1 S.2.1 dX6_areAnswers_8 (lv_at hl 0 rfl) ?_
      refine lv_iload_n S.1 S.2.1 dX6_areAnswers_10 rfl (lv_at hl 4 rfl) ?_
      refine lv_icmp_ge (tgt := 92) S.1 S.2.1 dX6_areAnswers_11 (by decide) (fun c8 => ?_) (fun c8 => ?_)
      · replace hf := x_ifT hf c8
        exact hx92 v5 v6 _ _ _ hf I (lv_sub hl [1, 2] rfl)
      · replace hf := x_ifF hf c8
        refine lv_iconst (v := 0) S.1 S.2.1 dX6_areAnswers_14 (by decide) ?_
        refine lv_istore (lv' := [(6, .int 0), (5, .int v7), (4, .int v6), (3, .int v5), (0, .int p1), (1, .int p2), (2, .int p3)]) S.1 S.2.1 dX6_areAnswers_15 hl (by decide) rfl (fun ls hl => ?_)
        refine lv_iconst (v := 0) S.1 S.2.1 dX6_areAnswers_17 (by decide) ?_
        refine lv_istore (lv' := [(7, .int 0), (6, .int 0), (5, .int v7), (4, .int v6), (3, .int v5), (0, .int p1), (1, .int p2), (2, .int p3)]) S.1 S.2.1 dX6_areAnswers_18 hl (by decide) rfl (fun ls hl => ?_)
        have hx69 : ∀ (v9 : Int32) (v10 : Int32) (H : Heap) (locs : List Loc) (ls : Array Slot), (fX6_areAnswers_x69 (fX6_areAnswers_l8 p2 p3 p1 n8) v6 v7) v9 v10 = some res → xI D A s [] (xT cI cC cZ) H locs → lv_has ls 8 [(6, .int v10), (5, .int v7), (4, .int v6), (3, .int v9), (0, .int p1), (1, .int p2), (2, .int p3)] → W p l e (headSpec wsX6_areAnswers rmX6_areAnswers).room s m args below meth c H locs 0 0 Q (F0 m 69 ls []) := by
          intro v9 v10 H locs ls hf I hl
          replace hf := (fX6_areAnswers_x69_e _ _ _ _ _).symm.trans hf
          refine lv_iload S.1 S.2.1 dX6_areAnswers_69 (lv_at hl 2 rfl) ?_
          have hj84 : ∀ (v11 : Int32) (H : Heap) (locs : List Loc) (ls : Array Slot), (fX6_areAnswers_j84 (fX6_areAnswers_l8 p2 p3 p1 n8) v9 v7) v11 = some res → xI D A s [] (xT cI cC cZ) H locs → lv_has ls 8 [(5, .int v7), (3, .int v9), (0, .int p1), (1, .int p2), (2, .int p3)] → W p l e (headSpec wsX6_areAnswers rmX6_areAnswers).room s m args below meth c H locs 0 0 Q (F0 m 84 ls [.int v11]) := by
            intro v11 H locs ls hf I hl
            replace hf := (fX6_areAnswers_j84_e _ _ _ _).symm.trans hf
            refine lv_istore (lv' := [(4, .int v11), (5, .int v7), (3, .int v9), (0, .int p1), (1, .int p2), (2, .int p3)]) S.1 S.2.1 dX6_areAnswers_84 hl (by decide) rfl (fun ls hl => ?_)
            refine lv_iinc (v := (v7 + 1)) (lv' := [(5, .int (v7 + 1)), (4, .int v11), (3, .int v9), (0, .int p1), (1, .int p2), (2, .int p3)]) S.1 S.2.1 dX6_areAnswers_86 hl (k := 1) rfl rfl (by decide) rfl (fun ls hl => ?_)
            refine lv_goto (tgt := 8) S.1 S.2.1 dX6_areAnswers_89 (by decide) ?_
            exact ih8 v9 v11 (v7 + 1) _ _ _ hf I (lv_sub hl [0, 1, 2, 3, 4, 5] rfl)
          have hj83 : ∀  (H : Heap) (locs : List Loc) (ls : Array Slot), (fX6_areAnswers_j83 (fX6_areAnswers_l8 p2 p3 p1 n8) v9 v7) = some res → xI D A s [] (xT cI cC cZ) H locs → lv_has ls 8 [(5, .int v7), (3, .int v9), (0, .int p1), (1, .int p2), (2, .int p3)] → W p l e (headSpec wsX6_areAnswers rmX6_areAnswers).room s m args below meth c H locs 0 0 Q (F0 m 83 ls []) := by
            intro  H locs ls hf I hl
            replace hf := (fX6_areAnswers_j83_e _ _ _).symm.trans hf
            refine lv_iconst (v := 0) S.1 S.2.1 dX6_areAnswers_83 (by decide) ?_
            exact hj84 0 _ _ _ hf I (lv_sub hl [0, 1, 2, 3, 4] rfl)
          refine lv_if_eq (tgt := 83) S.1 S.2.1 dX6_areAnswers_71 (by decide) (fun c12 => ?_) (fun c12 => ?_)
          · replace hf := x_ifT hf c12
            exact hj83 _ _ _ hf I (lv_sub hl [1, 3, 4, 5, 6] rfl)
          · replace hf := x_ifF hf c12
            refine lv_iload S.1 S.2.1 dX6_areAnswers_74 (lv_at hl 0 rfl) ?_
            refine lv_if_eq (tgt := 83) S.1 S.2.1 dX6_areAnswers_76 (by decide) (fun c13 => ?_) (fun c13 => ?_)
            · replace hf := x_ifT hf c13
              exact hj83 _ _ _ hf I (lv_sub hl [1, 3, 4, 5, 6] rfl)
            · replace hf := x_ifF hf c13
              refine lv_iconst (v := 1) S.1 S.2.1 dX6_areAnswers_79 (by decide) ?_
              refine lv_goto (tgt := 84) S.1 S.2.1 dX6_areAnswers_80 (by decide) ?_
              exact hj84 1 _ _ _ hf I (lv_sub hl [1, 3, 4, 5, 6] rfl)
        have hl20 : ∀ (n20 : Nat), ∀ (v14 : Int32) (v15 : Int32) (v16 : Int32) (H : Heap) (locs : List Loc) (ls : Array Slot), (fX6_areAnswers_l20 (fX6_areAnswers_l8 p2 p3 p1 n8) p3 v6 v7 p1 n20) v14 v15 v16 = some res → xI D A s [] (xT cI cC cZ) H locs → lv_has ls 8 [(7, .int v16), (6, .int v15), (5, .int v7), (4, .int v6), (3, .int v14), (0, .int p1), (1, .int p2), (2, .int p3)] → W p l e (headSpec wsX6_areAnswers rmX6_areAnswers).room s m args below meth c H locs 0 0 Q (F0 m 20 ls []) := by
          intro n20
          induction n20 with
          | zero =>
            intro v14 v15 v16 H locs ls hf I hl
            cases (fX6_areAnswers_l20_z _ _ _ _ _ _ _ _).symm.trans hf
          | succ n20 ih20 =>
            intro v14 v15 v16 H locs ls hf I hl
            replace hf := (fX6_areAnswers_l20_e _ _ _ _ _ _ _ _ _).symm.trans hf
            refine lv_iload S.1 S.2.1 dX6_areAnswers_20 (lv_at hl 0 rfl) ?_
            refine lv_iload_n S.1 S.2.1 dX6_areAnswers_22 rfl (lv_at hl 7 rfl) ?_
            refine lv_icmp_ge (tgt := 69) S.1 S.2.1 dX6_areAnswers_23 (by decide) (fun c17 => ?_) (fun c17 => ?_)
            · replace hf := x_ifT hf c17
              exact hx69 v14 v15 _ _ _ hf I (lv_sub hl [1, 2, 3, 4, 5, 6, 7] rfl)
            · replace hf := x_ifF hf c17
              refine lv_iload S.1 S.2.1 dX6_areAnswers_26 (lv_at hl 1 rfl) ?_
              have hj47 : ∀ (v18 : Int32) (H : Heap) (locs : List Loc) (ls : Array Slot), (fX6_areAnswers_j47 (fX6_areAnswers_l20 (fX6_areAnswers_l8 p2 p3 p1 n8) p3 v6 v7 p1 n20) v14 v7 v16) v18 = some res → xI D A s [] (xT cI cC cZ) H locs → lv_has ls 8 [(7, .int v16), (5, .int v7), (4, .int v6), (3, .int v14), (0, .int p1), (1, .int p2), (2, .int p3)] → W p l e (headSpec wsX6_areAnswers rmX6_areAnswers).room s m args below meth c H locs 0 0 Q (F0 m 47 ls [.int v18]) := by
                intro v18 H locs ls hf I hl
                replace hf := (fX6_areAnswers_j47_e _ _ _ _ _).symm.trans hf
                refine lv_istore (lv' := [(6, .int v18), (7, .int v16), (5, .int v7), (4, .int v6), (3, .int v14), (0, .int p1), (1, .int p2), (2, .int p3)]) S.1 S.2.1 dX6_areAnswers_47 hl (by decide) rfl (fun ls hl => ?_)
                refine lv_iload_n S.1 S.2.1 dX6_areAnswers_49 rfl (lv_at hl 4 rfl) ?_
                refine lv_iconst (v := 1) S.1 S.2.1 dX6_areAnswers_50 (by decide) ?_
                refine lv_iconst (v := 4) S.1 S.2.1 dX6_areAnswers_51 (by decide) ?_
                refine lv_iload S.1 S.2.1 dX6_areAnswers_52 (lv_at hl 2 rfl) ?_
                refine lv_imul S.1 S.2.1 dX6_areAnswers_54 ?_
                refine lv_iload S.1 S.2.1 dX6_areAnswers_55 (lv_at hl 1 rfl) ?_
                refine lv_iadd S.1 S.2.1 dX6_areAnswers_57 ?_
                refine lv_ishl S.1 S.2.1 dX6_areAnswers_58 ?_
                refine lv_iconst (v := (-1)) S.1 S.2.1 dX6_areAnswers_59 (by decide) ?_
                refine lv_ixor S.1 S.2.1 dX6_areAnswers_60 ?_
                refine lv_iand S.1 S.2.1 dX6_areAnswers_61 ?_
                refine lv_istore_n (lv' := [(3, .int (v14 &&& ((x_shl 1 ((4 * v7) + v16)) ^^^ (-1)))), (6, .int v18), (7, .int v16), (5, .int v7), (4, .int v6), (0, .int p1), (1, .int p2), (2, .int p3)]) S.1 S.2.1 dX6_areAnswers_62 rfl hl (by decide) rfl (fun ls hl => ?_)
                refine lv_iinc (v := (v16 + 1)) (lv' := [(7, .int (v16 + 1)), (3, .int (v14 &&& ((x_shl 1 ((4 * v7) + v16)) ^^^ (-1)))), (6, .int v18), (5, .int v7), (4, .int v6), (0, .int p1), (1, .int p2), (2, .int p3)]) S.1 S.2.1 dX6_areAnswers_63 hl (k := 2) rfl rfl (by decide) rfl (fun ls hl => ?_)
                refine lv_goto (tgt := 20) S.1 S.2.1 dX6_areAnswers_66 (by decide) ?_
                exact ih20 (v14 &&& ((x_shl 1 ((4 * v7) + v16)) ^^^ (-1))) v18 (v16 + 1) _ _ _ hf I (lv_sub hl [0, 2, 3, 4, 1, 5, 6, 7] rfl)
              have hj42 : ∀  (H : Heap) (locs : List Loc) (ls : Array Slot), (fX6_areAnswers_j42 (fX6_areAnswers_l20 (fX6_areAnswers_l8 p2 p3 p1 n8) p3 v6 v7 p1 n20) v14 v7 v16) = some res → xI D A s [] (xT cI cC cZ) H locs → lv_has ls 8 [(7, .int v16), (5, .int v7), (4, .int v6), (3, .int v14), (0, .int p1), (1, .int p2), (2, .int p3)] → W p l e (headSpec wsX6_areAnswers rmX6_areAnswers).room s m args below meth c H locs 0 0 Q (F0 m 42 ls []) := by
                intro  H locs ls hf I hl
                replace hf := (fX6_areAnswers_j42_e _ _ _ _).symm.trans hf
                refine lv_iconst (v := 1) S.1 S.2.1 dX6_areAnswers_42 (by decide) ?_
                refine lv_goto (tgt := 47) S.1 S.2.1 dX6_areAnswers_43 (by decide) ?_
                exact hj47 1 _ _ _ hf I (lv_sub hl [0, 1, 2, 3, 4, 5, 6] rfl)
              refine lv_if_ne (tgt := 42) S.1 S.2.1 dX6_areAnswers_28 (by decide) (fun c19 => ?_) (fun c19 => ?_)
              · replace hf := x_ifF hf c19
                exact hj42 _ _ _ hf I (lv_sub hl [0, 2, 3, 4, 5, 6, 7] rfl)
              · replace hf := x_ifT hf c19
                refine lv_iload_n S.1 S.2.1 dX6_areAnswers_31 rfl (lv_at hl 5 rfl) ?_
                refine lv_iload S.1 S.2.1 dX6_areAnswers_32 (lv_at hl 2 rfl) ?_
                refine lv_iload S.1 S.2.1 dX6_areAnswers_34 (lv_at hl 0 rfl) ?_
                obtain ⟨r21, hg20, hf⟩ := x_b1E hf
                refine x_c0 (As := [.int p1, .int v7, .int v16]) (rest := []) (st' := [.int r21]) S I rfl (tX6_isSolved l D cI cC cZ p1 v7 v16 r21 hg20) (va_cwS 3 S.2.2.2.2 gX6_areAnswers_X6_isSolved rfl rfl rfl (by decide +kernel) ⟨Nat.le_of_ble_eq_true rfl, Nat.le_of_ble_eq_true rfl⟩) hl rfl (Nat.le_of_ble_eq_true rfl) ⟨Nat.zero_le _, Nat.zero_le _⟩ rfl dX6_areAnswers_36 (fun H locs I => ?_)
                refine lv_if_eq (tgt := 46) S.1 S.2.1 dX6_areAnswers_39 (by decide) (fun c22 => ?_) (fun c22 => ?_)
                · replace hf := x_ifT hf c22
                  refine lv_iconst (v := 0) S.1 S.2.1 dX6_areAnswers_46 (by decide) ?_
                  exact hj47 0 _ _ _ hf I (lv_sub hl [0, 2, 3, 4, 5, 6, 7] rfl)
                · replace hf := x_ifF hf c22
                  exact hj42 _ _ _ hf I (lv_sub hl [0, 2, 3, 4, 5, 6, 7] rfl)
        exact hl20 4096 v5 0 0 _ _ _ hf I (lv_sub hl [0, 1, 2, 3, 4, 5, 6, 7] rfl)
  exact hl8 4096 p1 1 0 _ _ _ hf I (lv_sub hl [0, 1, 2, 3, 4, 5] rfl)
set_option maxHeartbeats 4000000 in
set_option maxRecDepth 100000 in
theorem tX6_addProblem (l : Launch) (D : va_G) (cI cC cZ : ClassId) (h : Nat) (a : Nat → Nat) (F : xF) (G : xG) (p1 p2 p3 : Int32) (res : Int32 × xF × xG) (hf : fX6_addProblem F G p1 p2 p3 = some res) : xC l yX6_addProblem wsX6_addProblem rmX6_addProblem D [.ref h, .int p1, .int p2, .int p3] (wX6 cI cC cZ h a F G) (fun t => (wX6 cI cC cZ h a t.2.1 t.2.2)) (xT cI cC cZ) (fun t => some (.int t.1)) res := by
  have kX6 : ∀ w ∈ u_ws RX6 TX6 32, w ∈ wsX6_addProblem := by decide +kernel
  refine x_of (cc := cX6_addProblem) (maxL := 4) (ret := (some .int)) (by decide) rfl (Nat.le_of_ble_eq_true rfl) ?_
  intro p e s m args below meth c A Q ls S I E hl
  replace hl : lv_has ls 4 [(0, .ref h), (1, .int p1), (2, .int p2), (3, .int p3)] := hl
  replace hf := (fX6_addProblem_e _ _ _ _ _).symm.trans hf
  refine lv_aload_n S.1 S.2.1 dX6_addProblem_0 rfl (lv_at hl 0 rfl) ?_
  refine x_get (C := RX6) (T := TX6) (N := 32) (ci := 5) (v := .ref (a 28)) S kX6 rfl I 0 28 rfl (by decide) (by decide +kernel) rfl dX6_addProblem_1 ?_
  refine lv_aload_n S.1 S.2.1 dX6_addProblem_4 rfl (lv_at hl 0 rfl) ?_
  refine x_get (C := RX6) (T := TX6) (N := 32) (ci := 5) (v := .int (F 27)) S kX6 rfl I 0 27 rfl (by decide) (by decide +kernel) rfl dX6_addProblem_5 ?_
  refine lv_iload_n S.1 S.2.1 dX6_addProblem_8 rfl (lv_at hl 1 rfl) ?_
  obtain ⟨hi1, hf⟩ := x_ldE hf
  refine x_iast (f := (G 28)) (ws' := (wX6 cI cC cZ h a F (va_up G 28 (upd (G 28) (F 27).toNatClampNeg p1)))) S I 20 0 rfl rfl hi1 rfl dX6_addProblem_9 (fun H locs I => ?_)
  refine lv_aload_n S.1 S.2.1 dX6_addProblem_10 rfl (lv_at hl 0 rfl) ?_
  refine x_get (C := RX6) (T := TX6) (N := 32) (ci := 5) (v := .ref (a 29)) S kX6 rfl I 0 29 rfl (by decide) (by decide +kernel) rfl dX6_addProblem_11 ?_
  refine lv_aload_n S.1 S.2.1 dX6_addProblem_14 rfl (lv_at hl 0 rfl) ?_
  refine x_get (C := RX6) (T := TX6) (N := 32) (ci := 5) (v := .int (F 27)) S kX6 rfl I 0 27 rfl (by decide) (by decide +kernel) rfl dX6_addProblem_15 ?_
  refine lv_iload_n S.1 S.2.1 dX6_addProblem_18 rfl (lv_at hl 2 rfl) ?_
  obtain ⟨hi2, hf⟩ := x_ldE hf
  refine x_iast (f := (G 29)) (ws' := (wX6 cI cC cZ h a F (va_up (va_up G 28 (upd (G 28) (F 27).toNatClampNeg p1)) 29 (upd (G 29) (F 27).toNatClampNeg p2)))) S I 21 0 rfl rfl hi2 rfl dX6_addProblem_19 (fun H locs I => ?_)
  refine lv_aload_n S.1 S.2.1 dX6_addProblem_20 rfl (lv_at hl 0 rfl) ?_
  refine x_get (C := RX6) (T := TX6) (N := 32) (ci := 5) (v := .ref (a 30)) S kX6 rfl I 0 30 rfl (by decide) (by decide +kernel) rfl dX6_addProblem_21 ?_
  refine lv_aload_n S.1 S.2.1 dX6_addProblem_24 rfl (lv_at hl 0 rfl) ?_
  refine x_get (C := RX6) (T := TX6) (N := 32) (ci := 5) (v := .int (F 27)) S kX6 rfl I 0 27 rfl (by decide) (by decide +kernel) rfl dX6_addProblem_25 ?_
  refine lv_iload_n S.1 S.2.1 dX6_addProblem_28 rfl (lv_at hl 3 rfl) ?_
  obtain ⟨hi3, hf⟩ := x_ldE hf
  refine x_iast (f := (G 30)) (ws' := (wX6 cI cC cZ h a F (va_up (va_up (va_up G 28 (upd (G 28) (F 27).toNatClampNeg p1)) 29 (upd (G 29) (F 27).toNatClampNeg p2)) 30 (upd (G 30) (F 27).toNatClampNeg p3)))) S I 22 0 rfl rfl hi3 rfl dX6_addProblem_29 (fun H locs I => ?_)
  refine lv_aload_n S.1 S.2.1 dX6_addProblem_30 rfl (lv_at hl 0 rfl) ?_
  refine lv_dup S.1 S.2.1 dX6_addProblem_31 rfl ?_
  refine x_get (C := RX6) (T := TX6) (N := 32) (ci := 5) (v := .int (F 27)) S kX6 rfl I 0 27 rfl (by decide) (by decide +kernel) rfl dX6_addProblem_32 ?_
  refine lv_iconst (v := 1) S.1 S.2.1 dX6_addProblem_35 (by decide) ?_
  refine lv_iadd S.1 S.2.1 dX6_addProblem_36 ?_
  refine x_put (C := RX6) (T := TX6) (N := 32) (ci := 5) (ws' := (wX6 cI cC cZ h a (va_up F 27 ((F 27) + 1)) (va_up (va_up (va_up G 28 (upd (G 28) (F 27).toNatClampNeg p1)) 29 (upd (G 29) (F 27).toNatClampNeg p2)) 30 (upd (G 30) (F 27).toNatClampNeg p3)))) S kX6 tyX6 tyX6_ok nmX6 rfl I 0 27 rfl (by decide) (by decide +kernel) rfl rfl (Nat.le_of_ble_eq_true rfl) rfl dX6_addProblem_37 (fun H locs I => ?_)
  refine lv_aload_n S.1 S.2.1 dX6_addProblem_40 rfl (lv_at hl 0 rfl) ?_
  refine x_get (C := RX6) (T := TX6) (N := 32) (ci := 5) (v := .int ((F 27) + 1)) S kX6 rfl I 0 27 rfl (by decide) (by decide +kernel) rfl dX6_addProblem_41 ?_
  refine lv_iconst (v := 1) S.1 S.2.1 dX6_addProblem_44 (by decide) ?_
  refine lv_isub S.1 S.2.1 dX6_addProblem_45 ?_
  exact x_ri E rfl rfl hf rfl I rfl dX6_addProblem_46
set_option maxHeartbeats 4000000 in
set_option maxRecDepth 100000 in
theorem tX6_problem (l : Launch) (D : va_G) (cI cC cZ : ClassId) (h : Nat) (a : Nat → Nat) (F : xF) (G : xG) (p1 p2 p3 : Int32) (res : Int32 × xF × xG) (hf : fX6_problem F G p1 p2 p3 = some res) : xC l yX6_problem wsX6_problem rmX6_problem D [.ref h, .int p1, .int p2, .int p3] (wX6 cI cC cZ h a F G) (fun t => (wX6 cI cC cZ h a t.2.1 t.2.2)) (xT cI cC cZ) (fun t => some (.int t.1)) res := by
  have kX6 : ∀ w ∈ u_ws RX6 TX6 32, w ∈ wsX6_problem := by decide +kernel
  refine x_of (cc := cX6_problem) (maxL := 5) (ret := (some .int)) (by decide) rfl (Nat.le_of_ble_eq_true rfl) ?_
  intro p e s m args below meth c A Q ls S I E hl
  replace hl : lv_has ls 5 [(0, .ref h), (1, .int p1), (2, .int p2), (3, .int p3)] := hl
  replace hf := (fX6_problem_e _ _ _ _ _).symm.trans hf
  refine lv_iload_n S.1 S.2.1 dX6_problem_0 rfl (lv_at hl 1 rfl) ?_
  refine lv_iconst (v := 1) S.1 S.2.1 dX6_problem_1 (by decide) ?_
  refine lv_iconst (v := 4) S.1 S.2.1 dX6_problem_2 (by decide) ?_
  obtain ⟨r2, hg1, hf⟩ := x_b1E hf
  refine x_c0 (As := [.int p1, .int 1, .int 4]) (rest := []) (st' := [.int r2]) S I rfl (tX6_in l D cI cC cZ p1 1 4 r2 hg1) (va_cwS 3 S.2.2.2.2 gX6_problem_X6_in rfl rfl rfl (by decide +kernel) ⟨Nat.le_of_ble_eq_true rfl, Nat.le_of_ble_eq_true rfl⟩) hl rfl (Nat.le_of_ble_eq_true rfl) ⟨Nat.zero_le _, Nat.zero_le _⟩ rfl dX6_problem_3 (fun H locs I => ?_)
  have hj32 : ∀ (v3 : Int32) (H : Heap) (locs : List Loc) (ls : Array Slot), (fX6_problem_j32 F G p1 p2 p3) v3 = some res → xI D A s (wX6 cI cC cZ h a F G) (xT cI cC cZ) H locs → lv_has ls 5 [(0, .ref h), (1, .int p1), (2, .int p2), (3, .int p3)] → W p l e (headSpec wsX6_problem rmX6_problem).room s m args below meth c H locs 0 0 Q (F0 m 32 ls [.int v3]) := by
    intro v3 H locs ls hf I hl
    replace hf := (fX6_problem_j32_e _ _ _ _ _ _).symm.trans hf
    refine lv_istore (lv' := [(4, .int v3), (0, .ref h), (1, .int p1), (2, .int p2), (3, .int p3)]) S.1 S.2.1 dX6_problem_32 hl (by decide) rfl (fun ls hl => ?_)
    refine lv_aload_n S.1 S.2.1 dX6_problem_34 rfl (lv_at hl 1 rfl) ?_
    refine lv_iload S.1 S.2.1 dX6_problem_35 (lv_at hl 0 rfl) ?_
    have hj58 : ∀ (v4 : Int32) (H : Heap) (locs : List Loc) (ls : Array Slot), (fX6_problem_j58 F G p1 p2 p3) v4 = some res → xI D A s (wX6 cI cC cZ h a F G) (xT cI cC cZ) H locs → lv_has ls 5 [(0, .ref h), (1, .int p1), (2, .int p2), (3, .int p3)] → W p l e (headSpec wsX6_problem rmX6_problem).room s m args below meth c H locs 0 0 Q (F0 m 58 ls [.int v4, .ref h]) := by
      intro v4 H locs ls hf I hl
      replace hf := (fX6_problem_j58_e _ _ _ _ _ _).symm.trans hf
      obtain ⟨r6, F7, hg5, hf⟩ := x_b2E hf
      refine x_cA (As := [.int v4]) (rest := []) (st' := [.int r6]) (ws' := (wX6 cI cC cZ h a F7 G)) S I (tX6_goesWell l D cI cC cZ h a F G v4 (r6, F7) hg5) (cwV 1 S.2.2.2.2 gX6_problem_X6_goesWell rfl rfl rfl (by decide +kernel) ⟨Nat.le_of_ble_eq_true rfl, Nat.le_of_ble_eq_true rfl⟩) 0 5 rfl rfl rfl rfl hl rfl (Nat.le_of_ble_eq_true rfl) ⟨Nat.zero_le _, Nat.zero_le _⟩ rfl dX6_problem_58 (fun H locs I => ?_)
      refine lv_if_eq (tgt := 74) S.1 S.2.1 dX6_problem_61 (by decide) (fun c8 => ?_) (fun c8 => ?_)
      · replace hf := x_ifT hf c8
        refine lv_iconst (v := 0) S.1 S.2.1 dX6_problem_74 (by decide) ?_
        exact x_ri E rfl rfl hf rfl I rfl dX6_problem_75
      · replace hf := x_ifF hf c8
        refine lv_aload_n S.1 S.2.1 dX6_problem_64 rfl (lv_at hl 0 rfl) ?_
        refine lv_iload_n S.1 S.2.1 dX6_problem_65 rfl (lv_at hl 1 rfl) ?_
        refine lv_iload_n S.1 S.2.1 dX6_problem_66 rfl (lv_at hl 2 rfl) ?_
        refine lv_iload_n S.1 S.2.1 dX6_problem_67 rfl (lv_at hl 3 rfl) ?_
        obtain ⟨r10, F11, G12, hg9, hf⟩ := x_b3E hf
        refine x_cA (As := [.int p1, .int p2, .int p3]) (rest := []) (st' := [.int r10]) (ws' := (wX6 cI cC cZ h a F11 G12)) S I (tX6_addProblem l D cI cC cZ h a F7 G p1 p2 p3 (r10, F11, G12) hg9) (cwV 3 S.2.2.2.2 gX6_problem_X6_addProblem rfl rfl rfl (by decide +kernel) ⟨Nat.le_of_ble_eq_true rfl, Nat.le_of_ble_eq_true rfl⟩) 0 5 rfl rfl rfl rfl hl rfl (Nat.le_of_ble_eq_true rfl) ⟨Nat.zero_le _, Nat.zero_le _⟩ rfl dX6_problem_68 (fun H locs I => ?_)
        refine lv_goto (tgt := 75) S.1 S.2.1 dX6_problem_71 (by decide) ?_
        exact x_ri E rfl rfl hf rfl I rfl dX6_problem_75
    refine lv_if_ne (tgt := 44) S.1 S.2.1 dX6_problem_37 (by decide) (fun c13 => ?_) (fun c13 => ?_)
    · replace hf := x_ifF hf c13
      refine lv_aload_n S.1 S.2.1 dX6_problem_44 rfl (lv_at hl 1 rfl) ?_
      refine x_get (C := RX6) (T := TX6) (N := 32) (ci := 5) (v := .int (F 27)) S kX6 rfl I 0 27 rfl (by decide) (by decide +kernel) rfl dX6_problem_45 ?_
      refine lv_bipush (v := 6) S.1 S.2.1 dX6_problem_48 (by decide) ?_
      refine lv_icmp_ne (tgt := 57) S.1 S.2.1 dX6_problem_50 (by decide) (fun c14 => ?_) (fun c14 => ?_)
      · replace hf := x_ifF hf c14
        refine lv_iconst (v := 0) S.1 S.2.1 dX6_problem_57 (by decide) ?_
        exact hj58 0 _ _ _ hf I (lv_sub hl [1, 2, 3, 4] rfl)
      · replace hf := x_ifT hf c14
        refine lv_iconst (v := 2) S.1 S.2.1 dX6_problem_53 (by decide) ?_
        refine lv_goto (tgt := 58) S.1 S.2.1 dX6_problem_54 (by decide) ?_
        exact hj58 2 _ _ _ hf I (lv_sub hl [1, 2, 3, 4] rfl)
    · replace hf := x_ifT hf c13
      refine lv_iconst (v := 1) S.1 S.2.1 dX6_problem_40 (by decide) ?_
      refine lv_goto (tgt := 58) S.1 S.2.1 dX6_problem_41 (by decide) ?_
      exact hj58 1 _ _ _ hf I (lv_sub hl [1, 2, 3, 4] rfl)
  have hj31 : ∀  (H : Heap) (locs : List Loc) (ls : Array Slot), (fX6_problem_j31 F G p1 p2 p3) = some res → xI D A s (wX6 cI cC cZ h a F G) (xT cI cC cZ) H locs → lv_has ls 5 [(0, .ref h), (1, .int p1), (2, .int p2), (3, .int p3)] → W p l e (headSpec wsX6_problem rmX6_problem).room s m args below meth c H locs 0 0 Q (F0 m 31 ls []) := by
    intro  H locs ls hf I hl
    replace hf := (fX6_problem_j31_e _ _ _ _ _).symm.trans hf
    refine lv_iconst (v := 0) S.1 S.2.1 dX6_problem_31 (by decide) ?_
    exact hj32 0 _ _ _ hf I (lv_sub hl [0, 1, 2, 3] rfl)
  refine lv_if_eq (tgt := 31) S.1 S.2.1 dX6_problem_6 (by decide) (fun c15 => ?_) (fun c15 => ?_)
  · replace hf := x_ifT hf c15
    exact hj31 _ _ _ hf I (lv_sub hl [0, 1, 2, 3] rfl)
  · replace hf := x_ifF hf c15
    refine lv_iload_n S.1 S.2.1 dX6_problem_9 rfl (lv_at hl 2 rfl) ?_
    refine lv_iconst (v := 1) S.1 S.2.1 dX6_problem_10 (by decide) ?_
    refine lv_iconst (v := 4) S.1 S.2.1 dX6_problem_11 (by decide) ?_
    obtain ⟨r17, hg16, hf⟩ := x_b1E hf
    refine x_c0 (As := [.int p2, .int 1, .int 4]) (rest := []) (st' := [.int r17]) S I rfl (tX6_in l D cI cC cZ p2 1 4 r17 hg16) (va_cwS 3 S.2.2.2.2 gX6_problem_X6_in rfl rfl rfl (by decide +kernel) ⟨Nat.le_of_ble_eq_true rfl, Nat.le_of_ble_eq_true rfl⟩) hl rfl (Nat.le_of_ble_eq_true rfl) ⟨Nat.zero_le _, Nat.zero_le _⟩ rfl dX6_problem_12 (fun H locs I => ?_)
    refine lv_if_eq (tgt := 31) S.1 S.2.1 dX6_problem_15 (by decide) (fun c18 => ?_) (fun c18 => ?_)
    · replace hf := x_ifT hf c18
      exact hj31 _ _ _ hf I (lv_sub hl [0, 1, 2, 3] rfl)
    · replace hf := x_ifF hf c18
      refine lv_iload_n S.1 S.2.1 dX6_problem_18 rfl (lv_at hl 3 rfl) ?_
      refine lv_iload_n S.1 S.2.1 dX6_problem_19 rfl (lv_at hl 1 rfl) ?_
      refine lv_iload_n S.1 S.2.1 dX6_problem_20 rfl (lv_at hl 2 rfl) ?_
      obtain ⟨r20, hg19, hf⟩ := x_b1E hf
      refine x_c0 (As := [.int p3, .int p1, .int p2]) (rest := []) (st' := [.int r20]) S I rfl (tX6_areAnswers l D cI cC cZ p3 p1 p2 r20 hg19) (va_cwS 3 S.2.2.2.2 gX6_problem_X6_areAnswers rfl rfl rfl (by decide +kernel) ⟨Nat.le_of_ble_eq_true rfl, Nat.le_of_ble_eq_true rfl⟩) hl rfl (Nat.le_of_ble_eq_true rfl) ⟨Nat.zero_le _, Nat.zero_le _⟩ rfl dX6_problem_21 (fun H locs I => ?_)
      refine lv_if_eq (tgt := 31) S.1 S.2.1 dX6_problem_24 (by decide) (fun c21 => ?_) (fun c21 => ?_)
      · replace hf := x_ifT hf c21
        exact hj31 _ _ _ hf I (lv_sub hl [0, 1, 2, 3] rfl)
      · replace hf := x_ifF hf c21
        refine lv_iconst (v := 1) S.1 S.2.1 dX6_problem_27 (by decide) ?_
        refine lv_goto (tgt := 32) S.1 S.2.1 dX6_problem_28 (by decide) ?_
        exact hj32 1 _ _ _ hf I (lv_sub hl [0, 1, 2, 3] rfl)
set_option maxHeartbeats 4000000 in
set_option maxRecDepth 100000 in
theorem tX6_product (l : Launch) (D : va_G) (cI cC cZ : ClassId) (h : Nat) (a : Nat → Nat) (F : xF) (G : xG) (p1 p2 : Int32) (res : Int32 × xF × xG) (hf : fX6_product F G p1 p2 = some res) : xC l yX6_product wsX6_product rmX6_product D [.ref h, .int p1, .int p2] (wX6 cI cC cZ h a F G) (fun t => (wX6 cI cC cZ h a t.2.1 t.2.2)) (xT cI cC cZ) (fun t => some (.int t.1)) res := by
  have kX6 : ∀ w ∈ u_ws RX6 TX6 32, w ∈ wsX6_product := by decide +kernel
  refine x_of (cc := cX6_product) (maxL := 12) (ret := (some .int)) (by decide) rfl (Nat.le_of_ble_eq_true rfl) ?_
  intro p e s m args below meth c A Q ls S I E hl
  replace hl : lv_has ls 12 [(0, .ref h), (1, .int p1), (2, .int p2)] := hl
  replace hf := (fX6_product_e _ _ _ _).symm.trans hf
  refine lv_aload_n S.1 S.2.1 dX6_product_0 rfl (lv_at hl 0 rfl) ?_
  refine lv_iload_n S.1 S.2.1 dX6_product_1 rfl (lv_at hl 1 rfl) ?_
  obtain ⟨r2, hg1, hf⟩ := x_b1E hf
  refine x_cA (As := [.int p1]) (rest := []) (st' := [.int r2]) (ws' := (wX6 cI cC cZ h a F G)) S I (tX6_isProblem l D cI cC cZ h a F G p1 r2 hg1) (cwV 1 S.2.2.2.2 gX6_product_X6_isProblem rfl rfl rfl (by decide +kernel) ⟨Nat.le_of_ble_eq_true rfl, Nat.le_of_ble_eq_true rfl⟩) 0 5 rfl rfl rfl rfl hl rfl (Nat.le_of_ble_eq_true rfl) ⟨Nat.zero_le _, Nat.zero_le _⟩ rfl dX6_product_2 (fun H locs I => ?_)
  have hj21 : ∀ (v3 : Int32) (H : Heap) (locs : List Loc) (ls : Array Slot), (fX6_product_j21 F G p1 p2) v3 = some res → xI D A s (wX6 cI cC cZ h a F G) (xT cI cC cZ) H locs → lv_has ls 12 [(0, .ref h), (1, .int p1), (2, .int p2)] → W p l e (headSpec wsX6_product rmX6_product).room s m args below meth c H locs 0 0 Q (F0 m 21 ls [.int v3]) := by
    intro v3 H locs ls hf I hl
    replace hf := (fX6_product_j21_e _ _ _ _ _).symm.trans hf
    refine lv_istore_n (lv' := [(3, .int v3), (0, .ref h), (1, .int p1), (2, .int p2)]) S.1 S.2.1 dX6_product_21 rfl hl (by decide) rfl (fun ls hl => ?_)
    refine lv_iload_n S.1 S.2.1 dX6_product_22 rfl (lv_at hl 0 rfl) ?_
    have hj74 : ∀ (v4 : Int32) (H : Heap) (locs : List Loc) (ls : Array Slot), (fX6_product_j74 F G v3 p1 p2) v4 = some res → xI D A s (wX6 cI cC cZ h a F G) (xT cI cC cZ) H locs → lv_has ls 12 [(3, .int v3), (0, .ref h), (1, .int p1), (2, .int p2)] → W p l e (headSpec wsX6_product rmX6_product).room s m args below meth c H locs 0 0 Q (F0 m 74 ls [.int v4]) := by
      intro v4 H locs ls hf I hl
      replace hf := (fX6_product_j74_e _ _ _ _ _ _).symm.trans hf
      refine lv_istore (lv' := [(4, .int v4), (3, .int v3), (0, .ref h), (1, .int p1), (2, .int p2)]) S.1 S.2.1 dX6_product_74 hl (by decide) rfl (fun ls hl => ?_)
      refine lv_aload_n S.1 S.2.1 dX6_product_76 rfl (lv_at hl 2 rfl) ?_
      refine lv_iload_n S.1 S.2.1 dX6_product_77 rfl (lv_at hl 1 rfl) ?_
      have hj95 : ∀ (v5 : Int32) (H : Heap) (locs : List Loc) (ls : Array Slot), (fX6_product_j95 F G p1 p2) v5 = some res → xI D A s (wX6 cI cC cZ h a F G) (xT cI cC cZ) H locs → lv_has ls 12 [(0, .ref h), (1, .int p1), (2, .int p2)] → W p l e (headSpec wsX6_product rmX6_product).room s m args below meth c H locs 0 0 Q (F0 m 95 ls [.int v5, .ref h]) := by
        intro v5 H locs ls hf I hl
        replace hf := (fX6_product_j95_e _ _ _ _ _).symm.trans hf
        obtain ⟨r7, F8, hg6, hf⟩ := x_b2E hf
        refine x_cA (As := [.int v5]) (rest := []) (st' := [.int r7]) (ws' := (wX6 cI cC cZ h a F8 G)) S I (tX6_goesWell l D cI cC cZ h a F G v5 (r7, F8) hg6) (cwV 1 S.2.2.2.2 gX6_product_X6_goesWell rfl rfl rfl (by decide +kernel) ⟨Nat.le_of_ble_eq_true rfl, Nat.le_of_ble_eq_true rfl⟩) 0 5 rfl rfl rfl rfl hl rfl (Nat.le_of_ble_eq_true rfl) ⟨Nat.zero_le _, Nat.zero_le _⟩ rfl dX6_product_95 (fun H locs I => ?_)
        refine lv_if_ne (tgt := 103) S.1 S.2.1 dX6_product_98 (by decide) (fun c9 => ?_) (fun c9 => ?_)
        · replace hf := x_ifF hf c9
          refine lv_aload_n S.1 S.2.1 dX6_product_103 rfl (lv_at hl 0 rfl) ?_
          refine x_get (C := RX6) (T := TX6) (N := 32) (ci := 5) (v := .ref (a 28)) S kX6 rfl I 0 28 rfl (by decide) (by decide +kernel) rfl dX6_product_104 ?_
          refine lv_iload_n S.1 S.2.1 dX6_product_107 rfl (lv_at hl 1 rfl) ?_
          obtain ⟨hi10, hf⟩ := x_ldE hf
          refine x_iald (f := (G 28)) S I 20 0 rfl rfl hi10 dX6_product_108 ?_
          refine lv_aload_n S.1 S.2.1 dX6_product_109 rfl (lv_at hl 0 rfl) ?_
          refine x_get (C := RX6) (T := TX6) (N := 32) (ci := 5) (v := .ref (a 28)) S kX6 rfl I 0 28 rfl (by decide) (by decide +kernel) rfl dX6_product_110 ?_
          refine lv_iload_n S.1 S.2.1 dX6_product_113 rfl (lv_at hl 2 rfl) ?_
          obtain ⟨hi11, hf⟩ := x_ldE hf
          refine x_iald (f := (G 28)) S I 20 0 rfl rfl hi11 dX6_product_114 ?_
          refine lv_imul S.1 S.2.1 dX6_product_115 ?_
          refine lv_istore (lv' := [(5, .int (((G 28) p1.toNatClampNeg) * ((G 28) p2.toNatClampNeg))), (0, .ref h), (1, .int p1), (2, .int p2)]) S.1 S.2.1 dX6_product_116 hl (by decide) rfl (fun ls hl => ?_)
          refine lv_aload_n S.1 S.2.1 dX6_product_118 rfl (lv_at hl 1 rfl) ?_
          refine x_get (C := RX6) (T := TX6) (N := 32) (ci := 5) (v := .ref (a 29)) S kX6 rfl I 0 29 rfl (by decide) (by decide +kernel) rfl dX6_product_119 ?_
          refine lv_iload_n S.1 S.2.1 dX6_product_122 rfl (lv_at hl 2 rfl) ?_
          obtain ⟨hi12, hf⟩ := x_ldE hf
          refine x_iald (f := (G 29)) S I 21 0 rfl rfl hi12 dX6_product_123 ?_
          refine lv_aload_n S.1 S.2.1 dX6_product_124 rfl (lv_at hl 1 rfl) ?_
          refine x_get (C := RX6) (T := TX6) (N := 32) (ci := 5) (v := .ref (a 29)) S kX6 rfl I 0 29 rfl (by decide) (by decide +kernel) rfl dX6_product_125 ?_
          refine lv_iload_n S.1 S.2.1 dX6_product_128 rfl (lv_at hl 3 rfl) ?_
          obtain ⟨hi13, hf⟩ := x_ldE hf
          refine x_iald (f := (G 29)) S I 21 0 rfl rfl hi13 dX6_product_129 ?_
          refine lv_imul S.1 S.2.1 dX6_product_130 ?_
          refine lv_istore (lv' := [(6, .int (((G 29) p1.toNatClampNeg) * ((G 29) p2.toNatClampNeg))), (5, .int (((G 28) p1.toNatClampNeg) * ((G 28) p2.toNatClampNeg))), (0, .ref h), (1, .int p1), (2, .int p2)]) S.1 S.2.1 dX6_product_131 hl (by decide) rfl (fun ls hl => ?_)
          refine lv_iconst (v := 0) S.1 S.2.1 dX6_product_133 (by decide) ?_
          refine lv_istore (lv' := [(7, .int 0), (6, .int (((G 29) p1.toNatClampNeg) * ((G 29) p2.toNatClampNeg))), (5, .int (((G 28) p1.toNatClampNeg) * ((G 28) p2.toNatClampNeg))), (0, .ref h), (1, .int p1), (2, .int p2)]) S.1 S.2.1 dX6_product_134 hl (by decide) rfl (fun ls hl => ?_)
          refine lv_iconst (v := 0) S.1 S.2.1 dX6_product_136 (by decide) ?_
          refine lv_istore (lv' := [(8, .int 0), (7, .int 0), (6, .int (((G 29) p1.toNatClampNeg) * ((G 29) p2.toNatClampNeg))), (5, .int (((G 28) p1.toNatClampNeg) * ((G 28) p2.toNatClampNeg))), (0, .ref h), (1, .int p1), (2, .int p2)]) S.1 S.2.1 dX6_product_137 hl (by decide) rfl (fun ls hl => ?_)
          have hx254 : ∀ (v14 : Int32) (H : Heap) (locs : List Loc) (ls : Array Slot), (fX6_product_x254 F8 G p1 p2) v14 = some res → xI D A s (wX6 cI cC cZ h a F8 G) (xT cI cC cZ) H locs → lv_has ls 12 [(7, .int v14), (6, .int (((G 29) p1.toNatClampNeg) * ((G 29) p2.toNatClampNeg))), (5, .int (((G 28) p1.toNatClampNeg) * ((G 28) p2.toNatClampNeg))), (0, .ref h)] → W p l e (headSpec wsX6_product rmX6_product).room s m args below meth c H locs 0 0 Q (F0 m 254 ls []) := by
            intro v14 H locs ls hf I hl
            replace hf := (fX6_product_x254_e _ _ _ _ _).symm.trans hf
            refine lv_aload_n S.1 S.2.1 dX6_product_254 rfl (lv_at hl 3 rfl) ?_
            refine lv_iload S.1 S.2.1 dX6_product_255 (lv_at hl 2 rfl) ?_
            refine lv_iload S.1 S.2.1 dX6_product_257 (lv_at hl 1 rfl) ?_
            refine lv_iload S.1 S.2.1 dX6_product_259 (lv_at hl 0 rfl) ?_
            obtain ⟨r16, F17, G18, hg15, hf⟩ := x_b3E hf
            refine x_cA (As := [.int (((G 28) p1.toNatClampNeg) * ((G 28) p2.toNatClampNeg)), .int (((G 29) p1.toNatClampNeg) * ((G 29) p2.toNatClampNeg)), .int v14]) (rest := []) (st' := [.int r16]) (ws' := (wX6 cI cC cZ h a F17 G18)) S I (tX6_addProblem l D cI cC cZ h a F8 G (((G 28) p1.toNatClampNeg) * ((G 28) p2.toNatClampNeg)) (((G 29) p1.toNatClampNeg) * ((G 29) p2.toNatClampNeg)) v14 (r16, F17, G18) hg15) (cwV 3 S.2.2.2.2 gX6_product_X6_addProblem rfl rfl rfl (by decide +kernel) ⟨Nat.le_of_ble_eq_true rfl, Nat.le_of_ble_eq_true rfl⟩) 0 5 rfl rfl rfl rfl hl rfl (Nat.le_of_ble_eq_true rfl) ⟨Nat.zero_le _, Nat.zero_le _⟩ rfl dX6_product_261 (fun H locs I => ?_)
            exact x_ri E rfl rfl hf rfl I rfl dX6_product_264
          have hl139 : ∀ (n139 : Nat), ∀ (v19 : Int32) (v20 : Int32) (H : Heap) (locs : List Loc) (ls : Array Slot), (fX6_product_l139 G F8 p1 p2 n139) v19 v20 = some res → xI D A s (wX6 cI cC cZ h a F8 G) (xT cI cC cZ) H locs → lv_has ls 12 [(8, .int v20), (7, .int v19), (6, .int (((G 29) p1.toNatClampNeg) * ((G 29) p2.toNatClampNeg))), (5, .int (((G 28) p1.toNatClampNeg) * ((G 28) p2.toNatClampNeg))), (0, .ref h), (1, .int p1), (2, .int p2)] → W p l e (headSpec wsX6_product rmX6_product).room s m args below meth c H locs 0 0 Q (F0 m 139 ls []) := by
            intro n139
            induction n139 with
            | zero =>
              intro v19 v20 H locs ls hf I hl
              cases (fX6_product_l139_z _ _ _ _ _ _).symm.trans hf
            | succ n139 ih139 =>
              intro v19 v20 H locs ls hf I hl
              replace hf := (fX6_product_l139_e _ _ _ _ _ _ _).symm.trans hf
              refine lv_iload S.1 S.2.1 dX6_product_139 (lv_at hl 0 rfl) ?_
              refine lv_iload S.1 S.2.1 dX6_product_141 (lv_at hl 3 rfl) ?_
              refine lv_icmp_ge (tgt := 254) S.1 S.2.1 dX6_product_143 (by decide) (fun c21 => ?_) (fun c21 => ?_)
              · replace hf := x_ifT hf c21
                exact hx254 v19 _ _ _ hf I (lv_sub hl [1, 2, 3, 4] rfl)
              · replace hf := x_ifF hf c21
                refine lv_iconst (v := 0) S.1 S.2.1 dX6_product_146 (by decide) ?_
                refine lv_istore (lv' := [(9, .int 0), (8, .int v20), (7, .int v19), (6, .int (((G 29) p1.toNatClampNeg) * ((G 29) p2.toNatClampNeg))), (5, .int (((G 28) p1.toNatClampNeg) * ((G 28) p2.toNatClampNeg))), (0, .ref h), (1, .int p1), (2, .int p2)]) S.1 S.2.1 dX6_product_147 hl (by decide) rfl (fun ls hl => ?_)
                have hx248 : ∀ (v22 : Int32) (H : Heap) (locs : List Loc) (ls : Array Slot), (fX6_product_x248 (fX6_product_l139 G F8 p1 p2 n139) v20) v22 = some res → xI D A s (wX6 cI cC cZ h a F8 G) (xT cI cC cZ) H locs → lv_has ls 12 [(8, .int v20), (7, .int v22), (6, .int (((G 29) p1.toNatClampNeg) * ((G 29) p2.toNatClampNeg))), (5, .int (((G 28) p1.toNatClampNeg) * ((G 28) p2.toNatClampNeg))), (0, .ref h), (1, .int p1), (2, .int p2)] → W p l e (headSpec wsX6_product rmX6_product).room s m args below meth c H locs 0 0 Q (F0 m 248 ls []) := by
                  intro v22 H locs ls hf I hl
                  replace hf := (fX6_product_x248_e _ _ _).symm.trans hf
                  refine lv_iinc (v := (v20 + 1)) (lv' := [(8, .int (v20 + 1)), (7, .int v22), (6, .int (((G 29) p1.toNatClampNeg) * ((G 29) p2.toNatClampNeg))), (5, .int (((G 28) p1.toNatClampNeg) * ((G 28) p2.toNatClampNeg))), (0, .ref h), (1, .int p1), (2, .int p2)]) S.1 S.2.1 dX6_product_248 hl (k := 0) rfl rfl (by decide) rfl (fun ls hl => ?_)
                  refine lv_goto (tgt := 139) S.1 S.2.1 dX6_product_251 (by decide) ?_
                  exact ih139 v22 (v20 + 1) _ _ _ hf I (lv_sub hl [0, 1, 2, 3, 4, 5, 6] rfl)
                have hl149 : ∀ (n149 : Nat), ∀ (v23 : Int32) (v24 : Int32) (H : Heap) (locs : List Loc) (ls : Array Slot), (fX6_product_l149 (fX6_product_l139 G F8 p1 p2 n139) G p1 p2 v20 n149) v23 v24 = some res → xI D A s (wX6 cI cC cZ h a F8 G) (xT cI cC cZ) H locs → lv_has ls 12 [(9, .int v24), (8, .int v20), (7, .int v23), (6, .int (((G 29) p1.toNatClampNeg) * ((G 29) p2.toNatClampNeg))), (5, .int (((G 28) p1.toNatClampNeg) * ((G 28) p2.toNatClampNeg))), (0, .ref h), (1, .int p1), (2, .int p2)] → W p l e (headSpec wsX6_product rmX6_product).room s m args below meth c H locs 0 0 Q (F0 m 149 ls []) := by
                  intro n149
                  induction n149 with
                  | zero =>
                    intro v23 v24 H locs ls hf I hl
                    cases (fX6_product_l149_z _ _ _ _ _ _ _).symm.trans hf
                  | succ n149 ih149 =>
                    intro v23 v24 H locs ls hf I hl
                    replace hf := (fX6_product_l149_e _ _ _ _ _ _ _ _).symm.trans hf
                    refine lv_iload S.1 S.2.1 dX6_product_149 (lv_at hl 0 rfl) ?_
                    refine lv_iload S.1 S.2.1 dX6_product_151 (lv_at hl 3 rfl) ?_
                    refine lv_icmp_ge (tgt := 248) S.1 S.2.1 dX6_product_153 (by decide) (fun c25 => ?_) (fun c25 => ?_)
                    · replace hf := x_ifT hf c25
                      exact hx248 v23 _ _ _ hf I (lv_sub hl [1, 2, 3, 4, 5, 6, 7] rfl)
                    · replace hf := x_ifF hf c25
                      refine lv_aload_n S.1 S.2.1 dX6_product_156 rfl (lv_at hl 5 rfl) ?_
                      refine x_get (C := RX6) (T := TX6) (N := 32) (ci := 5) (v := .ref (a 30)) S kX6 rfl I 0 30 rfl (by decide) (by decide +kernel) rfl dX6_product_157 ?_
                      refine lv_iload_n S.1 S.2.1 dX6_product_160 rfl (lv_at hl 6 rfl) ?_
                      obtain ⟨hi26, hf⟩ := x_ldE hf
                      refine x_iald (f := (G 30)) S I 22 0 rfl rfl hi26 dX6_product_161 ?_
                      refine lv_iload S.1 S.2.1 dX6_product_162 (lv_at hl 1 rfl) ?_
                      refine lv_aload_n S.1 S.2.1 dX6_product_164 rfl (lv_at hl 5 rfl) ?_
                      refine x_get (C := RX6) (T := TX6) (N := 32) (ci := 5) (v := .ref (a 28)) S kX6 rfl I 0 28 rfl (by decide) (by decide +kernel) rfl dX6_product_165 ?_
                      refine lv_iload_n S.1 S.2.1 dX6_product_168 rfl (lv_at hl 7 rfl) ?_
                      obtain ⟨hi27, hf⟩ := x_ldE hf
                      refine x_iald (f := (G 28)) S I 20 0 rfl rfl hi27 dX6_product_169 ?_
                      obtain ⟨hz28, hf⟩ := x_dvE hf
                      refine lv_idiv S.1 S.2.1 dX6_product_170 hz28 ?_
                      refine lv_iload S.1 S.2.1 dX6_product_171 (lv_at hl 0 rfl) ?_
                      refine lv_aload_n S.1 S.2.1 dX6_product_173 rfl (lv_at hl 5 rfl) ?_
                      refine x_get (C := RX6) (T := TX6) (N := 32) (ci := 5) (v := .ref (a 29)) S kX6 rfl I 0 29 rfl (by decide) (by decide +kernel) rfl dX6_product_174 ?_
                      refine lv_iload_n S.1 S.2.1 dX6_product_177 rfl (lv_at hl 7 rfl) ?_
                      obtain ⟨hi29, hf⟩ := x_ldE hf
                      refine x_iald (f := (G 29)) S I 21 0 rfl rfl hi29 dX6_product_178 ?_
                      obtain ⟨hz30, hf⟩ := x_dvE hf
                      refine lv_idiv S.1 S.2.1 dX6_product_179 hz30 ?_
                      obtain ⟨r32, hg31, hf⟩ := x_b1E hf
                      refine x_c0 (As := [.int ((G 30) p1.toNatClampNeg), .int (v20 / ((G 28) p2.toNatClampNeg)), .int (v24 / ((G 29) p2.toNatClampNeg))]) (rest := []) (st' := [.int r32]) S I rfl (tX6_isSolved l D cI cC cZ ((G 30) p1.toNatClampNeg) (v20 / ((G 28) p2.toNatClampNeg)) (v24 / ((G 29) p2.toNatClampNeg)) r32 hg31) (va_cwS 3 S.2.2.2.2 gX6_product_X6_isSolved rfl rfl rfl (by decide +kernel) ⟨Nat.le_of_ble_eq_true rfl, Nat.le_of_ble_eq_true rfl⟩) hl rfl (Nat.le_of_ble_eq_true rfl) ⟨Nat.zero_le _, Nat.zero_le _⟩ rfl dX6_product_180 (fun H locs I => ?_)
                      refine lv_istore (lv' := [(10, .int r32), (9, .int v24), (8, .int v20), (7, .int v23), (6, .int (((G 29) p1.toNatClampNeg) * ((G 29) p2.toNatClampNeg))), (5, .int (((G 28) p1.toNatClampNeg) * ((G 28) p2.toNatClampNeg))), (0, .ref h), (1, .int p1), (2, .int p2)]) S.1 S.2.1 dX6_product_183 hl (by decide) rfl (fun ls hl => ?_)
                      refine lv_aload_n S.1 S.2.1 dX6_product_185 rfl (lv_at hl 6 rfl) ?_
                      refine x_get (C := RX6) (T := TX6) (N := 32) (ci := 5) (v := .ref (a 30)) S kX6 rfl I 0 30 rfl (by decide) (by decide +kernel) rfl dX6_product_186 ?_
                      refine lv_iload_n S.1 S.2.1 dX6_product_189 rfl (lv_at hl 8 rfl) ?_
                      obtain ⟨hi33, hf⟩ := x_ldE hf
                      refine x_iald (f := (G 30)) S I 22 0 rfl rfl hi33 dX6_product_190 ?_
                      refine lv_iload S.1 S.2.1 dX6_product_191 (lv_at hl 2 rfl) ?_
                      refine lv_aload_n S.1 S.2.1 dX6_product_193 rfl (lv_at hl 6 rfl) ?_
                      refine x_get (C := RX6) (T := TX6) (N := 32) (ci := 5) (v := .ref (a 28)) S kX6 rfl I 0 28 rfl (by decide) (by decide +kernel) rfl dX6_product_194 ?_
                      refine lv_iload_n S.1 S.2.1 dX6_product_197 rfl (lv_at hl 8 rfl) ?_
                      obtain ⟨hi34, hf⟩ := x_ldE hf
                      refine x_iald (f := (G 28)) S I 20 0 rfl rfl hi34 dX6_product_198 ?_
                      obtain ⟨hz35, hf⟩ := x_dvE hf
                      refine lv_irem S.1 S.2.1 dX6_product_199 hz35 ?_
                      refine lv_iload S.1 S.2.1 dX6_product_200 (lv_at hl 1 rfl) ?_
                      refine lv_aload_n S.1 S.2.1 dX6_product_202 rfl (lv_at hl 6 rfl) ?_
                      refine x_get (C := RX6) (T := TX6) (N := 32) (ci := 5) (v := .ref (a 29)) S kX6 rfl I 0 29 rfl (by decide) (by decide +kernel) rfl dX6_product_203 ?_
                      refine lv_iload_n S.1 S.2.1 dX6_product_206 rfl (lv_at hl 8 rfl) ?_
                      obtain ⟨hi36, hf⟩ := x_ldE hf
                      refine x_iald (f := (G 29)) S I 21 0 rfl rfl hi36 dX6_product_207 ?_
                      obtain ⟨hz37, hf⟩ := x_dvE hf
                      refine lv_irem S.1 S.2.1 dX6_product_208 hz37 ?_
                      obtain ⟨r39, hg38, hf⟩ := x_b1E hf
                      refine x_c0 (As := [.int ((G 30) p2.toNatClampNeg), .int (x_rem v20 ((G 28) p2.toNatClampNeg)), .int (x_rem v24 ((G 29) p2.toNatClampNeg))]) (rest := []) (st' := [.int r39]) S I rfl (tX6_isSolved l D cI cC cZ ((G 30) p2.toNatClampNeg) (x_rem v20 ((G 28) p2.toNatClampNeg)) (x_rem v24 ((G 29) p2.toNatClampNeg)) r39 hg38) (va_cwS 3 S.2.2.2.2 gX6_product_X6_isSolved rfl rfl rfl (by decide +kernel) ⟨Nat.le_of_ble_eq_true rfl, Nat.le_of_ble_eq_true rfl⟩) hl rfl (Nat.le_of_ble_eq_true rfl) ⟨Nat.zero_le _, Nat.zero_le _⟩ rfl dX6_product_209 (fun H locs I => ?_)
                      refine lv_istore (lv' := [(11, .int r39), (10, .int r32), (9, .int v24), (8, .int v20), (7, .int v23), (6, .int (((G 29) p1.toNatClampNeg) * ((G 29) p2.toNatClampNeg))), (5, .int (((G 28) p1.toNatClampNeg) * ((G 28) p2.toNatClampNeg))), (0, .ref h), (1, .int p1), (2, .int p2)]) S.1 S.2.1 dX6_product_212 hl (by decide) rfl (fun ls hl => ?_)
                      refine lv_iload S.1 S.2.1 dX6_product_214 (lv_at hl 4 rfl) ?_
                      refine lv_iload S.1 S.2.1 dX6_product_216 (lv_at hl 1 rfl) ?_
                      have hj239 : ∀ (v40 : Int32) (H : Heap) (locs : List Loc) (ls : Array Slot), (fX6_product_j239 (fX6_product_l149 (fX6_product_l139 G F8 p1 p2 n139) G p1 p2 v20 n149) v23 v24) v40 = some res → xI D A s (wX6 cI cC cZ h a F8 G) (xT cI cC cZ) H locs → lv_has ls 12 [(9, .int v24), (8, .int v20), (6, .int (((G 29) p1.toNatClampNeg) * ((G 29) p2.toNatClampNeg))), (5, .int (((G 28) p1.toNatClampNeg) * ((G 28) p2.toNatClampNeg))), (0, .ref h), (1, .int p1), (2, .int p2)] → W p l e (headSpec wsX6_product rmX6_product).room s m args below meth c H locs 0 0 Q (F0 m 239 ls [.int v40, .int v23]) := by
                        intro v40 H locs ls hf I hl
                        replace hf := (fX6_product_j239_e _ _ _ _).symm.trans hf
                        refine lv_ior S.1 S.2.1 dX6_product_239 ?_
                        refine lv_istore (lv' := [(7, .int (v23 ||| v40)), (9, .int v24), (8, .int v20), (6, .int (((G 29) p1.toNatClampNeg) * ((G 29) p2.toNatClampNeg))), (5, .int (((G 28) p1.toNatClampNeg) * ((G 28) p2.toNatClampNeg))), (0, .ref h), (1, .int p1), (2, .int p2)]) S.1 S.2.1 dX6_product_240 hl (by decide) rfl (fun ls hl => ?_)
                        refine lv_iinc (v := (v24 + 1)) (lv' := [(9, .int (v24 + 1)), (7, .int (v23 ||| v40)), (8, .int v20), (6, .int (((G 29) p1.toNatClampNeg) * ((G 29) p2.toNatClampNeg))), (5, .int (((G 28) p1.toNatClampNeg) * ((G 28) p2.toNatClampNeg))), (0, .ref h), (1, .int p1), (2, .int p2)]) S.1 S.2.1 dX6_product_242 hl (k := 1) rfl rfl (by decide) rfl (fun ls hl => ?_)
                        refine lv_goto (tgt := 149) S.1 S.2.1 dX6_product_245 (by decide) ?_
                        exact ih149 (v23 ||| v40) (v24 + 1) _ _ _ hf I (lv_sub hl [0, 2, 1, 3, 4, 5, 6, 7] rfl)
                      have hj238 : ∀  (H : Heap) (locs : List Loc) (ls : Array Slot), (fX6_product_j238 (fX6_product_l149 (fX6_product_l139 G F8 p1 p2 n139) G p1 p2 v20 n149) v23 v24) = some res → xI D A s (wX6 cI cC cZ h a F8 G) (xT cI cC cZ) H locs → lv_has ls 12 [(9, .int v24), (8, .int v20), (6, .int (((G 29) p1.toNatClampNeg) * ((G 29) p2.toNatClampNeg))), (5, .int (((G 28) p1.toNatClampNeg) * ((G 28) p2.toNatClampNeg))), (0, .ref h), (1, .int p1), (2, .int p2)] → W p l e (headSpec wsX6_product rmX6_product).room s m args below meth c H locs 0 0 Q (F0 m 238 ls [.int v23]) := by
                        intro  H locs ls hf I hl
                        replace hf := (fX6_product_j238_e _ _ _).symm.trans hf
                        refine lv_iconst (v := 0) S.1 S.2.1 dX6_product_238 (by decide) ?_
                        exact hj239 0 _ _ _ hf I (lv_sub hl [0, 1, 2, 3, 4, 5, 6] rfl)
                      refine lv_if_eq (tgt := 238) S.1 S.2.1 dX6_product_218 (by decide) (fun c41 => ?_) (fun c41 => ?_)
                      · replace hf := x_ifT hf c41
                        exact hj238 _ _ _ hf I (lv_sub hl [2, 3, 5, 6, 7, 8, 9] rfl)
                      · replace hf := x_ifF hf c41
                        refine lv_iload S.1 S.2.1 dX6_product_221 (lv_at hl 0 rfl) ?_
                        refine lv_if_eq (tgt := 238) S.1 S.2.1 dX6_product_223 (by decide) (fun c42 => ?_) (fun c42 => ?_)
                        · replace hf := x_ifT hf c42
                          exact hj238 _ _ _ hf I (lv_sub hl [2, 3, 5, 6, 7, 8, 9] rfl)
                        · replace hf := x_ifF hf c42
                          refine lv_iconst (v := 1) S.1 S.2.1 dX6_product_226 (by decide) ?_
                          refine lv_iconst (v := 4) S.1 S.2.1 dX6_product_227 (by decide) ?_
                          refine lv_iload S.1 S.2.1 dX6_product_228 (lv_at hl 3 rfl) ?_
                          refine lv_imul S.1 S.2.1 dX6_product_230 ?_
                          refine lv_iload S.1 S.2.1 dX6_product_231 (lv_at hl 2 rfl) ?_
                          refine lv_iadd S.1 S.2.1 dX6_product_233 ?_
                          refine lv_ishl S.1 S.2.1 dX6_product_234 ?_
                          refine lv_goto (tgt := 239) S.1 S.2.1 dX6_product_235 (by decide) ?_
                          exact hj239 (x_shl 1 ((4 * v20) + v24)) _ _ _ hf I (lv_sub hl [2, 3, 5, 6, 7, 8, 9] rfl)
                exact hl149 4096 v19 0 _ _ _ hf I (lv_sub hl [0, 1, 2, 3, 4, 5, 6, 7] rfl)
          exact hl139 4096 0 0 _ _ _ hf I (lv_sub hl [0, 1, 2, 3, 4, 5, 6] rfl)
        · replace hf := x_ifT hf c9
          refine lv_iconst (v := 0) S.1 S.2.1 dX6_product_101 (by decide) ?_
          exact x_ri E rfl rfl hf rfl I rfl dX6_product_102
      refine lv_if_ne (tgt := 85) S.1 S.2.1 dX6_product_78 (by decide) (fun c43 => ?_) (fun c43 => ?_)
      · replace hf := x_ifF hf c43
        refine lv_iload S.1 S.2.1 dX6_product_85 (lv_at hl 0 rfl) ?_
        refine lv_if_eq (tgt := 94) S.1 S.2.1 dX6_product_87 (by decide) (fun c44 => ?_) (fun c44 => ?_)
        · replace hf := x_ifT hf c44
          refine lv_iconst (v := 2) S.1 S.2.1 dX6_product_94 (by decide) ?_
          exact hj95 2 _ _ _ hf I (lv_sub hl [2, 3, 4] rfl)
        · replace hf := x_ifF hf c44
          refine lv_iconst (v := 0) S.1 S.2.1 dX6_product_90 (by decide) ?_
          refine lv_goto (tgt := 95) S.1 S.2.1 dX6_product_91 (by decide) ?_
          exact hj95 0 _ _ _ hf I (lv_sub hl [2, 3, 4] rfl)
      · replace hf := x_ifT hf c43
        refine lv_iconst (v := 1) S.1 S.2.1 dX6_product_81 (by decide) ?_
        refine lv_goto (tgt := 95) S.1 S.2.1 dX6_product_82 (by decide) ?_
        exact hj95 1 _ _ _ hf I (lv_sub hl [2, 3, 4] rfl)
    have hj73 : ∀  (H : Heap) (locs : List Loc) (ls : Array Slot), (fX6_product_j73 F G v3 p1 p2) = some res → xI D A s (wX6 cI cC cZ h a F G) (xT cI cC cZ) H locs → lv_has ls 12 [(3, .int v3), (0, .ref h), (1, .int p1), (2, .int p2)] → W p l e (headSpec wsX6_product rmX6_product).room s m args below meth c H locs 0 0 Q (F0 m 73 ls []) := by
      intro  H locs ls hf I hl
      replace hf := (fX6_product_j73_e _ _ _ _ _).symm.trans hf
      refine lv_iconst (v := 0) S.1 S.2.1 dX6_product_73 (by decide) ?_
      exact hj74 0 _ _ _ hf I (lv_sub hl [0, 1, 2, 3] rfl)
    refine lv_if_eq (tgt := 73) S.1 S.2.1 dX6_product_23 (by decide) (fun c45 => ?_) (fun c45 => ?_)
    · replace hf := x_ifT hf c45
      exact hj73 _ _ _ hf I (lv_sub hl [0, 1, 2, 3] rfl)
    · replace hf := x_ifF hf c45
      refine lv_aload_n S.1 S.2.1 dX6_product_26 rfl (lv_at hl 1 rfl) ?_
      refine x_get (C := RX6) (T := TX6) (N := 32) (ci := 5) (v := .int (F 27)) S kX6 rfl I 0 27 rfl (by decide) (by decide +kernel) rfl dX6_product_27 ?_
      refine lv_bipush (v := 6) S.1 S.2.1 dX6_product_30 (by decide) ?_
      refine lv_icmp_ge (tgt := 73) S.1 S.2.1 dX6_product_32 (by decide) (fun c46 => ?_) (fun c46 => ?_)
      · replace hf := x_ifT hf c46
        exact hj73 _ _ _ hf I (lv_sub hl [0, 1, 2, 3] rfl)
      · replace hf := x_ifF hf c46
        refine lv_aload_n S.1 S.2.1 dX6_product_35 rfl (lv_at hl 1 rfl) ?_
        refine x_get (C := RX6) (T := TX6) (N := 32) (ci := 5) (v := .ref (a 28)) S kX6 rfl I 0 28 rfl (by decide) (by decide +kernel) rfl dX6_product_36 ?_
        refine lv_iload_n S.1 S.2.1 dX6_product_39 rfl (lv_at hl 2 rfl) ?_
        obtain ⟨hi47, hf⟩ := x_ldE hf
        refine x_iald (f := (G 28)) S I 20 0 rfl rfl hi47 dX6_product_40 ?_
        refine lv_aload_n S.1 S.2.1 dX6_product_41 rfl (lv_at hl 1 rfl) ?_
        refine x_get (C := RX6) (T := TX6) (N := 32) (ci := 5) (v := .ref (a 28)) S kX6 rfl I 0 28 rfl (by decide) (by decide +kernel) rfl dX6_product_42 ?_
        refine lv_iload_n S.1 S.2.1 dX6_product_45 rfl (lv_at hl 3 rfl) ?_
        obtain ⟨hi48, hf⟩ := x_ldE hf
        refine x_iald (f := (G 28)) S I 20 0 rfl rfl hi48 dX6_product_46 ?_
        refine lv_imul S.1 S.2.1 dX6_product_47 ?_
        refine lv_iconst (v := 4) S.1 S.2.1 dX6_product_48 (by decide) ?_
        refine lv_icmp_gt (tgt := 73) S.1 S.2.1 dX6_product_49 (by decide) (fun c49 => ?_) (fun c49 => ?_)
        · replace hf := x_ifT hf c49
          exact hj73 _ _ _ hf I (lv_sub hl [0, 1, 2, 3] rfl)
        · replace hf := x_ifF hf c49
          refine lv_aload_n S.1 S.2.1 dX6_product_52 rfl (lv_at hl 1 rfl) ?_
          refine x_get (C := RX6) (T := TX6) (N := 32) (ci := 5) (v := .ref (a 29)) S kX6 rfl I 0 29 rfl (by decide) (by decide +kernel) rfl dX6_product_53 ?_
          refine lv_iload_n S.1 S.2.1 dX6_product_56 rfl (lv_at hl 2 rfl) ?_
          obtain ⟨hi50, hf⟩ := x_ldE hf
          refine x_iald (f := (G 29)) S I 21 0 rfl rfl hi50 dX6_product_57 ?_
          refine lv_aload_n S.1 S.2.1 dX6_product_58 rfl (lv_at hl 1 rfl) ?_
          refine x_get (C := RX6) (T := TX6) (N := 32) (ci := 5) (v := .ref (a 29)) S kX6 rfl I 0 29 rfl (by decide) (by decide +kernel) rfl dX6_product_59 ?_
          refine lv_iload_n S.1 S.2.1 dX6_product_62 rfl (lv_at hl 3 rfl) ?_
          obtain ⟨hi51, hf⟩ := x_ldE hf
          refine x_iald (f := (G 29)) S I 21 0 rfl rfl hi51 dX6_product_63 ?_
          refine lv_imul S.1 S.2.1 dX6_product_64 ?_
          refine lv_iconst (v := 4) S.1 S.2.1 dX6_product_65 (by decide) ?_
          refine lv_icmp_gt (tgt := 73) S.1 S.2.1 dX6_product_66 (by decide) (fun c52 => ?_) (fun c52 => ?_)
          · replace hf := x_ifT hf c52
            exact hj73 _ _ _ hf I (lv_sub hl [0, 1, 2, 3] rfl)
          · replace hf := x_ifF hf c52
            refine lv_iconst (v := 1) S.1 S.2.1 dX6_product_69 (by decide) ?_
            refine lv_goto (tgt := 74) S.1 S.2.1 dX6_product_70 (by decide) ?_
            exact hj74 1 _ _ _ hf I (lv_sub hl [0, 1, 2, 3] rfl)
  have hj20 : ∀  (H : Heap) (locs : List Loc) (ls : Array Slot), (fX6_product_j20 F G p1 p2) = some res → xI D A s (wX6 cI cC cZ h a F G) (xT cI cC cZ) H locs → lv_has ls 12 [(0, .ref h), (1, .int p1), (2, .int p2)] → W p l e (headSpec wsX6_product rmX6_product).room s m args below meth c H locs 0 0 Q (F0 m 20 ls []) := by
    intro  H locs ls hf I hl
    replace hf := (fX6_product_j20_e _ _ _ _).symm.trans hf
    refine lv_iconst (v := 0) S.1 S.2.1 dX6_product_20 (by decide) ?_
    exact hj21 0 _ _ _ hf I (lv_sub hl [0, 1, 2] rfl)
  refine lv_if_eq (tgt := 20) S.1 S.2.1 dX6_product_5 (by decide) (fun c53 => ?_) (fun c53 => ?_)
  · replace hf := x_ifT hf c53
    exact hj20 _ _ _ hf I (lv_sub hl [0, 1, 2] rfl)
  · replace hf := x_ifF hf c53
    refine lv_aload_n S.1 S.2.1 dX6_product_8 rfl (lv_at hl 0 rfl) ?_
    refine lv_iload_n S.1 S.2.1 dX6_product_9 rfl (lv_at hl 2 rfl) ?_
    obtain ⟨r55, hg54, hf⟩ := x_b1E hf
    refine x_cA (As := [.int p2]) (rest := []) (st' := [.int r55]) (ws' := (wX6 cI cC cZ h a F G)) S I (tX6_isProblem l D cI cC cZ h a F G p2 r55 hg54) (cwV 1 S.2.2.2.2 gX6_product_X6_isProblem rfl rfl rfl (by decide +kernel) ⟨Nat.le_of_ble_eq_true rfl, Nat.le_of_ble_eq_true rfl⟩) 0 5 rfl rfl rfl rfl hl rfl (Nat.le_of_ble_eq_true rfl) ⟨Nat.zero_le _, Nat.zero_le _⟩ rfl dX6_product_10 (fun H locs I => ?_)
    refine lv_if_eq (tgt := 20) S.1 S.2.1 dX6_product_13 (by decide) (fun c56 => ?_) (fun c56 => ?_)
    · replace hf := x_ifT hf c56
      exact hj20 _ _ _ hf I (lv_sub hl [0, 1, 2] rfl)
    · replace hf := x_ifF hf c56
      refine lv_iconst (v := 1) S.1 S.2.1 dX6_product_16 (by decide) ?_
      refine lv_goto (tgt := 21) S.1 S.2.1 dX6_product_17 (by decide) ?_
      exact hj21 1 _ _ _ hf I (lv_sub hl [0, 1, 2] rfl)
set_option maxHeartbeats 4000000 in
set_option maxRecDepth 100000 in
theorem tX6_given (l : Launch) (D : va_G) (cI cC cZ : ClassId) (p1 p2 p3 : Int32) (res : Int32) (hf : fX6_given p1 p2 p3 = some res) : xC l yX6_given wsX6_given rmX6_given D [.int p1, .int p2, .int p3] [] (fun _ => []) (xT cI cC cZ) (fun t => some (.int t)) res := by
  refine x_of (cc := cX6_given) (maxL := 5) (ret := (some .int)) (by decide) rfl (Nat.le_of_ble_eq_true rfl) ?_
  intro p e s m args below meth c A Q ls S I E hl
  replace hl : lv_has ls 5 [(0, .int p1), (1, .int p2), (2, .int p3)] := hl
  replace hf := (fX6_given_e _ _ _).symm.trans hf
  refine lv_iload_n S.1 S.2.1 dX6_given_0 rfl (lv_at hl 0 rfl) ?_
  refine lv_istore_n (lv' := [(3, .int p1), (0, .int p1), (1, .int p2), (2, .int p3)]) S.1 S.2.1 dX6_given_1 rfl hl (by decide) rfl (fun ls hl => ?_)
  refine lv_iconst (v := 0) S.1 S.2.1 dX6_given_2 (by decide) ?_
  refine lv_istore (lv' := [(4, .int 0), (3, .int p1), (0, .int p1), (1, .int p2), (2, .int p3)]) S.1 S.2.1 dX6_given_3 hl (by decide) rfl (fun ls hl => ?_)
  have hl5 : ∀ (n5 : Nat), ∀ (v1 : Int32) (v2 : Int32) (H : Heap) (locs : List Loc) (ls : Array Slot), (fX6_given_l5 p3 p2 n5) v1 v2 = some res → xI D A s [] (xT cI cC cZ) H locs → lv_has ls 5 [(4, .int v2), (3, .int v1), (1, .int p2), (2, .int p3)] → W p l e (headSpec wsX6_given rmX6_given).room s m args below meth c H locs 0 0 Q (F0 m 5 ls []) := by
    intro n5
    induction n5 with
    | zero =>
      intro v1 v2 H locs ls hf I hl
      cases (fX6_given_l5_z _ _ _ _).symm.trans hf
    | succ n5 ih5 =>
      intro v1 v2 H locs ls hf I hl
      replace hf := (fX6_given_l5_e _ _ _ _ _).symm.trans hf
      refine lv_iload S.1 S.2.1 dX6_given_5 (lv_at hl 0 rfl) ?_
      refine lv_iload_n S.1 S.2.1 dX6_given_7 rfl (lv_at hl 3 rfl) ?_
      refine lv_icmp_ge (tgt := 21) S.1 S.2.1 dX6_given_8 (by decide) (fun c3 => ?_) (fun c3 => ?_)
      · replace hf := x_ifT hf c3
        refine lv_iload_n S.1 S.2.1 dX6_given_21 rfl (lv_at hl 1 rfl) ?_
        refine lv_iload_n S.1 S.2.1 dX6_given_22 rfl (lv_at hl 2 rfl) ?_
        obtain ⟨hz4, hf⟩ := x_dvE hf
        refine lv_irem S.1 S.2.1 dX6_given_23 hz4 ?_
        exact x_ri E rfl rfl hf rfl I rfl dX6_given_24
      · replace hf := x_ifF hf c3
        refine lv_iload_n S.1 S.2.1 dX6_given_11 rfl (lv_at hl 1 rfl) ?_
        refine lv_iload_n S.1 S.2.1 dX6_given_12 rfl (lv_at hl 2 rfl) ?_
        obtain ⟨hz5, hf⟩ := x_dvE hf
        refine lv_idiv S.1 S.2.1 dX6_given_13 hz5 ?_
        refine lv_istore_n (lv' := [(3, .int (v1 / p2)), (4, .int v2), (1, .int p2), (2, .int p3)]) S.1 S.2.1 dX6_given_14 rfl hl (by decide) rfl (fun ls hl => ?_)
        refine lv_iinc (v := (v2 + 1)) (lv' := [(4, .int (v2 + 1)), (3, .int (v1 / p2)), (1, .int p2), (2, .int p3)]) S.1 S.2.1 dX6_given_15 hl (k := 1) rfl rfl (by decide) rfl (fun ls hl => ?_)
        refine lv_goto (tgt := 5) S.1 S.2.1 dX6_given_18 (by decide) ?_
        exact ih5 (v1 / p2) (v2 + 1) _ _ _ hf I (lv_sub hl [0, 1, 2, 3] rfl)
  exact hl5 4096 p1 0 _ _ _ hf I (lv_sub hl [0, 1, 3, 4] rfl)
