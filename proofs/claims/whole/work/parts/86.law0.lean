theorem l_cmp0 {x y : Int64} (h : x = y) : lg_cmp x y = 0 := by subst h; simp [lg_cmp]
theorem l_f0 {k : Int32} {f : Nat → Int64} {v : Int64} (hk : k = 0) : (if k = 0 then vp_updL f 0 v else f) (0 : Int32).toNatClampNeg = v := by rw [if_pos hk]; rfl
set_option maxHeartbeats 4000000 in
set_option maxRecDepth 100000 in
theorem tLaw_0 (l : Launch) (hlf : l.stackTraces = false) (sa : Nat → Nat) (D : va_G) (cI cC cZ cL : ClassId) (h o hm : Nat) (a b d z q am : Nat → Nat) (Fp : xF) (Gp : xG) (Fo : xF) (Go : xG) (Fz : xF) (Gz : xG) (Fq : xF) (Gq : xG) (f : Nat → Int64) (F : xF) (G : xG) {p : Program} {e : Env} {s : State} {m : MethodId} {args : Array Value} {below : List Frame} {meth : Method} {c : Code} {A : Nat → Prop} {Q : State → Prop} {H : Heap} {locs : List Loc} {cells slots : Nat} {ls : Array Slot} {b0 L : Nat} {xs : Nat → Int32} {i : Int32} (S : CallFix p m c cL_law 7 s args wsL_law RL) (Z : yZ sa A s s.heap) (hX : va_X b0 L xs s s.heap) (hbl : b0 < s.heap.size) (hbA : ¬ A b0) (I : xI D A s (wL cI cC cZ cL h a b d z q Fp Gp Fo Go Fz Gz Fq Gq o f hm am F G) (xTL cI cC cZ cL) H locs) (hl : lv_has ls 7 [(4, .int i), (3, .ref o), (2, .ref hm), (1, .ref h), (0, .ref b0)]) (hcs : cells + 1 ≤ 1108 ∧ slots + 6 ≤ 19580) (hi1 : vp_in (i + 1) L) {k r r' : Int32} {Fp' : xF} {Gp' : xG} {Fo' : xF} {Go' : xG} {F' : xF} {G' : xG} (hx9 : ¬ k = 0 → ¬ k = 1 → k = 2) (hfx : fX5_letter Fp Gp Fo Go (((xs (i + 1).toNatClampNeg).toUInt32 % 65536).toInt32) = some (k, r, Fp', Gp', Fo', Go')) (hfm : fX6_letter F G (((xs (i + 1).toNatClampNeg).toUInt32 % 65536).toInt32) = some (r', F', G')) (ht : fX6_thrown F' = some k) (hv : k = 0 → r = r') (kk : ∀ (H1 : Heap) (locs1 : List Loc) (ls1 : Array Slot) (f1 : Nat → Int64), xI D A s (wL cI cC cZ cL h a b d z q Fp' Gp' Fo' Go' Fz Gz Fq Gq o f1 hm am F' G') (xTL cI cC cZ cL) H1 locs1 → lv_has ls1 7 [(4, .int i), (3, .ref o), (2, .ref hm), (1, .ref h), (0, .ref b0)] → W p l e room_1 s m args below meth c H1 locs1 (cells + 1) (slots + 6) Q (F0 m 1545 ls1 [])) : W p l e room_1 s m args below meth c H locs cells slots Q (F0 m 152 ls []) := by
  refine lv_aload_n S.1 S.2.1 dL_law_152 rfl (lv_at hl 3 rfl) ?_
  refine lv_aload_n S.1 S.2.1 dL_law_153 rfl (lv_at hl 4 rfl) ?_
  refine lv_iload S.1 S.2.1 dL_law_154 (lv_at hl 0 rfl) ?_
  refine lv_iconst (v := 1) S.1 S.2.1 dL_law_156 (by decide) ?_
  refine lv_iadd S.1 S.2.1 dL_law_157 ?_
  refine l_sld S I hX hbl hbA hi1 dL_law_158 ?_
  refine lv_i2c (v := ((xs (i + 1).toNatClampNeg).toUInt32 % 65536).toInt32) S.1 S.2.1 dL_law_159 rfl ?_
  refine lv_aload_n S.1 S.2.1 dL_law_160 rfl (lv_at hl 1 rfl) ?_
  refine l_c7 (As := [.ref h, .int (((xs (i + 1).toNatClampNeg).toUInt32 % 65536).toInt32), .ref o]) (rest := []) (Fp' := Fp') (Gp' := Gp') (Fo' := Fo') (Go' := Go') (Fz' := Fz) (Gz' := Gz) (Fq' := Fq) (Gq' := Gq) (f' := (if k = 0 then vp_updL f 0 r.toInt64 else f)) S I Z (tL_letter l hlf sa D cI cC cZ cL h o a b d z q Fp Gp Fo Go Fz Gz Fq Gq f (((xs (i + 1).toNatClampNeg).toUInt32 % 65536).toInt32) (k, r, Fp', Gp', Fo', Go') hx9 hfx) rfl (vx_cwSW 3 S.2.2.2.2 gL_law_L_letter rfl rfl rfl (by decide +kernel) ⟨Nat.le_of_ble_eq_true rfl, Nat.le_of_ble_eq_true rfl⟩) hl rfl (Nat.le_of_ble_eq_true rfl) hcs dL_law_161 (fun H locs I => ?_)
  refine W.eq (g2 := F0 m 164 ls [.int k]) rfl ?_
  refine lv_istore (lv' := [(5, .int k), (4, .int i), (3, .ref o), (2, .ref hm), (1, .ref h), (0, .ref b0)]) S.1 S.2.1 dL_law_164 hl (by decide) rfl (fun ls hl => ?_)
  refine lv_aload_n S.1 S.2.1 dL_law_166 rfl (lv_at hl 3 rfl) ?_
  refine lv_aload_n S.1 S.2.1 dL_law_167 rfl (lv_at hl 5 rfl) ?_
  refine lv_iload S.1 S.2.1 dL_law_168 (lv_at hl 1 rfl) ?_
  refine lv_iconst (v := 1) S.1 S.2.1 dL_law_170 (by decide) ?_
  refine lv_iadd S.1 S.2.1 dL_law_171 ?_
  refine l_sld S I hX hbl hbA hi1 dL_law_172 ?_
  refine lv_i2c (v := ((xs (i + 1).toNatClampNeg).toUInt32 % 65536).toInt32) S.1 S.2.1 dL_law_173 rfl ?_
  refine l_c6 (As := [.int (((xs (i + 1).toNatClampNeg).toUInt32 % 65536).toInt32)]) (rest := []) (st' := [.int r']) (F' := F') (G' := G') S I (tX6_letter l D cI cC cZ hm am F G (((xs (i + 1).toNatClampNeg).toUInt32 % 65536).toInt32) (r', F', G') hfm) rfl (cwV 1 S.2.2.2.2 gL_law_X6_letter rfl rfl rfl (by decide +kernel) ⟨Nat.le_of_ble_eq_true rfl, Nat.le_of_ble_eq_true rfl⟩) hl rfl (Nat.le_of_ble_eq_true rfl) hcs rfl dL_law_174 (fun H locs I => ?_)
  refine lv_istore (lv' := [(6, .int r'), (5, .int k), (4, .int i), (3, .ref o), (2, .ref hm), (1, .ref h), (0, .ref b0)]) S.1 S.2.1 dL_law_177 hl (by decide) rfl (fun ls hl => ?_)
  refine lv_aload_n S.1 S.2.1 dL_law_179 rfl (lv_at hl 4 rfl) ?_
  refine l_c6 (As := []) (rest := []) (st' := [.int k]) (F' := F') (G' := G') S I (tX6_thrown l D cI cC cZ hm am F' G' k ht) rfl (cwV 0 S.2.2.2.2 gL_law_X6_thrown rfl rfl rfl (by decide +kernel) ⟨Nat.le_of_ble_eq_true rfl, Nat.le_of_ble_eq_true rfl⟩) hl rfl (Nat.le_of_ble_eq_true rfl) hcs rfl dL_law_180 (fun H locs I => ?_)
  refine lv_iload S.1 S.2.1 dL_law_183 (lv_at hl 1 rfl) ?_
  refine lv_icmp_eq (tgt := 190) S.1 S.2.1 dL_law_185 (by decide) (fun c1 => ?_) (fun c1 => absurd rfl c1)
  refine lv_iload S.1 S.2.1 dL_law_190 (lv_at hl 1 rfl) ?_
  refine lv_if_ne (tgt := 207) S.1 S.2.1 dL_law_192 (by decide) (fun c2 => ?_) (fun c2 => ?_)
  · refine lv_goto (tgt := 1545) S.1 S.2.1 dL_law_207 (by decide) ?_
    exact kk _ _ _ _ I (lv_sub hl [2, 3, 4, 5, 6] rfl)
  refine lv_aload_n S.1 S.2.1 dL_law_195 rfl (lv_at hl 3 rfl) ?_
  refine lv_iconst (v := 0) S.1 S.2.1 dL_law_196 (by decide) ?_
  refine l_c8 S I dL_law_197 ?_
  refine lv_iload S.1 S.2.1 dL_law_198 (lv_at hl 0 rfl) ?_
  refine lv_i2l (v := r'.toInt64) S.1 S.2.1 dL_law_200 rfl ?_
  refine W.lcmp S.1 S.2.1 dL_law_201 ?_
  refine lv_if_eq (tgt := 207) S.1 S.2.1 dL_law_202 (by decide) (fun c3 => ?_) (fun c3 => absurd (l_cmp0 ((l_f0 c2).trans (by rw [hv c2]))) c3)
  refine lv_goto (tgt := 1545) S.1 S.2.1 dL_law_207 (by decide) ?_
  exact kk _ _ _ _ I (lv_sub hl [2, 3, 4, 5, 6] rfl)
set_option maxHeartbeats 4000000 in
set_option maxRecDepth 100000 in
theorem tLaw_1 (l : Launch) (hlf : l.stackTraces = false) (sa : Nat → Nat) (D : va_G) (cI cC cZ cL : ClassId) (h o hm : Nat) (a b d z q am : Nat → Nat) (Fp : xF) (Gp : xG) (Fo : xF) (Go : xG) (Fz : xF) (Gz : xG) (Fq : xF) (Gq : xG) (f : Nat → Int64) (F : xF) (G : xG) {p : Program} {e : Env} {s : State} {m : MethodId} {args : Array Value} {below : List Frame} {meth : Method} {c : Code} {A : Nat → Prop} {Q : State → Prop} {H : Heap} {locs : List Loc} {cells slots : Nat} {ls : Array Slot} {b0 L : Nat} {xs : Nat → Int32} {i : Int32} (S : CallFix p m c cL_law 7 s args wsL_law RL) (Z : yZ sa A s s.heap) (hX : va_X b0 L xs s s.heap) (hbl : b0 < s.heap.size) (hbA : ¬ A b0) (I : xI D A s (wL cI cC cZ cL h a b d z q Fp Gp Fo Go Fz Gz Fq Gq o f hm am F G) (xTL cI cC cZ cL) H locs) (hl : lv_has ls 7 [(4, .int i), (3, .ref o), (2, .ref hm), (1, .ref h), (0, .ref b0)]) (hcs : cells + 1 ≤ 1108 ∧ slots + 6 ≤ 19580) {r r' : Int32} {Fp' : xF} {Fo' : xF} {F' : xF} (hfx : fX5_blank Fp Fo = some (r, Fp', Fo')) (hfm : fX6_blank F = some (r', F')) (hv : r = r') (kk : ∀ (H1 : Heap) (locs1 : List Loc) (ls1 : Array Slot) (f1 : Nat → Int64), xI D A s (wL cI cC cZ cL h a b d z q Fp' Gp Fo' Go Fz Gz Fq Gq o f1 hm am F' G) (xTL cI cC cZ cL) H1 locs1 → lv_has ls1 7 [(4, .int i), (3, .ref o), (2, .ref hm), (1, .ref h), (0, .ref b0)] → W p l e room_1 s m args below meth c H1 locs1 (cells + 1) (slots + 6) Q (F0 m 1545 ls1 [])) : W p l e room_1 s m args below meth c H locs cells slots Q (F0 m 210 ls []) := by
  refine lv_aload_n S.1 S.2.1 dL_law_210 rfl (lv_at hl 3 rfl) ?_
  refine l_c5 (As := []) (rest := []) (st' := [.int r]) (Fp' := Fp') (Gp' := Gp) (Fo' := Fo') (Go' := Go) (Fz' := Fz) (Gz' := Gz) (Fq' := Fq) (Gq' := Gq) S I (tX5_blank l D cI cC cZ h a b d z q Fp Gp Fo Go Fz Gz Fq Gq (r, Fp', Fo') hfx) rfl (cwV 0 S.2.2.2.2 gL_law_X5_blank rfl rfl rfl (by decide +kernel) ⟨Nat.le_of_ble_eq_true rfl, Nat.le_of_ble_eq_true rfl⟩) hl rfl (Nat.le_of_ble_eq_true rfl) ⟨Nat.le_trans (Nat.le_add_right _ 1) hcs.1, Nat.le_trans (Nat.le_add_right _ 6) hcs.2⟩ rfl dL_law_211 (fun H locs I => ?_)
  refine lv_aload_n S.1 S.2.1 dL_law_214 rfl (lv_at hl 2 rfl) ?_
  refine l_c6 (As := []) (rest := [.int r]) (st' := [.int r', .int r]) (F' := F') (G' := G) S I (tX6_blank l D cI cC cZ hm am F G  (r', F') hfm) rfl (cwV 0 S.2.2.2.2 gL_law_X6_blank rfl rfl rfl (by decide +kernel) ⟨Nat.le_of_ble_eq_true rfl, Nat.le_of_ble_eq_true rfl⟩) hl rfl (Nat.le_of_ble_eq_true rfl) ⟨Nat.le_trans (Nat.le_add_right _ 1) hcs.1, Nat.le_trans (Nat.le_add_right _ 6) hcs.2⟩ rfl dL_law_215 (fun H locs I => ?_)
  refine lv_icmp_eq (tgt := 1545) S.1 S.2.1 dL_law_218 (by decide) (fun c1 => ?_) (fun c1 => absurd hv c1)
  refine W.widen (k := cells + 1) (n := slots + 6) (Nat.le_add_right _ _) (Nat.le_add_right _ _) ?_
  exact kk _ _ _ _ I (lv_sub hl [0, 1, 2, 3, 4] rfl)
set_option maxHeartbeats 4000000 in
set_option maxRecDepth 100000 in
theorem tLaw_sw {p : Program} {l : Launch} {e : Env} {s : State} {m : MethodId} {args : Array Value} {below : List Frame} {meth : Method} {c : Code} {Q : State → Prop} {H : Heap} {locs : List Loc} {cells slots : Nat} {ls : Array Slot} (S : CallFix p m c cL_law 7 s args wsL_law RL) (v : Int32) (h0 : v = 0 → W p l e room_1 s m args below meth c H locs cells slots Q (F0 m 152 ls [])) (h1 : v = 1 → W p l e room_1 s m args below meth c H locs cells slots Q (F0 m 210 ls [])) (h2 : v = 2 → W p l e room_1 s m args below meth c H locs cells slots Q (F0 m 223 ls [])) (h3 : v = 3 → W p l e room_1 s m args below meth c H locs cells slots Q (F0 m 236 ls [])) (h4 : v = 4 → W p l e room_1 s m args below meth c H locs cells slots Q (F0 m 249 ls [])) (h5 : v = 5 → W p l e room_1 s m args below meth c H locs cells slots Q (F0 m 262 ls [])) (h6 : v = 6 → W p l e room_1 s m args below meth c H locs cells slots Q (F0 m 275 ls [])) (h7 : v = 7 → W p l e room_1 s m args below meth c H locs cells slots Q (F0 m 374 ls [])) (h8 : v = 8 → W p l e room_1 s m args below meth c H locs cells slots Q (F0 m 418 ls [])) (h9 : v = 9 → W p l e room_1 s m args below meth c H locs cells slots Q (F0 m 486 ls [])) (h10 : v = 10 → W p l e room_1 s m args below meth c H locs cells slots Q (F0 m 542 ls [])) (h11 : v = 11 → W p l e room_1 s m args below meth c H locs cells slots Q (F0 m 598 ls [])) (h12 : v = 12 → W p l e room_1 s m args below meth c H locs cells slots Q (F0 m 678 ls [])) (h13 : v = 13 → W p l e room_1 s m args below meth c H locs cells slots Q (F0 m 746 ls [])) (h14 : v = 14 → W p l e room_1 s m args below meth c H locs cells slots Q (F0 m 759 ls [])) (h15 : v = 15 → W p l e room_1 s m args below meth c H locs cells slots Q (F0 m 827 ls [])) (h16 : v = 16 → W p l e room_1 s m args below meth c H locs cells slots Q (F0 m 895 ls [])) (h17 : v = 17 → W p l e room_1 s m args below meth c H locs cells slots Q (F0 m 963 ls [])) (h18 : v = 18 → W p l e room_1 s m args below meth c H locs cells slots Q (F0 m 1043 ls [])) (h19 : v = 19 → W p l e room_1 s m args below meth c H locs cells slots Q (F0 m 1111 ls [])) (h20 : v = 20 → W p l e room_1 s m args below meth c H locs cells slots Q (F0 m 1179 ls [])) (h21 : v = 21 → W p l e room_1 s m args below meth c H locs cells slots Q (F0 m 1247 ls [])) (h22 : v = 22 → W p l e room_1 s m args below meth c H locs cells slots Q (F0 m 1327 ls [])) (h23 : v = 23 → W p l e room_1 s m args below meth c H locs cells slots Q (F0 m 1395 ls [])) (h24 : v = 24 → W p l e room_1 s m args below meth c H locs cells slots Q (F0 m 1470 ls [])) (hd : W p l e room_1 s m args below meth c H locs cells slots Q (F0 m 1545 ls [])) : W p l e room_1 s m args below meth c H locs cells slots Q (F0 m 39 ls [.int v]) := by
  by_cases c0 : v = 0
  · exact lv_tableIn (off := 113) (tgt := 152) S.1 S.2.1 dL_law_39 (by rw [c0]; decide) (by rw [c0]; decide) (by rw [c0]; rfl) (by decide) (h0 c0)
  by_cases c1 : v = 1
  · exact lv_tableIn (off := 171) (tgt := 210) S.1 S.2.1 dL_law_39 (by rw [c1]; decide) (by rw [c1]; decide) (by rw [c1]; rfl) (by decide) (h1 c1)
  by_cases c2 : v = 2
  · exact lv_tableIn (off := 184) (tgt := 223) S.1 S.2.1 dL_law_39 (by rw [c2]; decide) (by rw [c2]; decide) (by rw [c2]; rfl) (by decide) (h2 c2)
  by_cases c3 : v = 3
  · exact lv_tableIn (off := 197) (tgt := 236) S.1 S.2.1 dL_law_39 (by rw [c3]; decide) (by rw [c3]; decide) (by rw [c3]; rfl) (by decide) (h3 c3)
  by_cases c4 : v = 4
  · exact lv_tableIn (off := 210) (tgt := 249) S.1 S.2.1 dL_law_39 (by rw [c4]; decide) (by rw [c4]; decide) (by rw [c4]; rfl) (by decide) (h4 c4)
  by_cases c5 : v = 5
  · exact lv_tableIn (off := 223) (tgt := 262) S.1 S.2.1 dL_law_39 (by rw [c5]; decide) (by rw [c5]; decide) (by rw [c5]; rfl) (by decide) (h5 c5)
  by_cases c6 : v = 6
  · exact lv_tableIn (off := 236) (tgt := 275) S.1 S.2.1 dL_law_39 (by rw [c6]; decide) (by rw [c6]; decide) (by rw [c6]; rfl) (by decide) (h6 c6)
  by_cases c7 : v = 7
  · exact lv_tableIn (off := 335) (tgt := 374) S.1 S.2.1 dL_law_39 (by rw [c7]; decide) (by rw [c7]; decide) (by rw [c7]; rfl) (by decide) (h7 c7)
  by_cases c8 : v = 8
  · exact lv_tableIn (off := 379) (tgt := 418) S.1 S.2.1 dL_law_39 (by rw [c8]; decide) (by rw [c8]; decide) (by rw [c8]; rfl) (by decide) (h8 c8)
  by_cases c9 : v = 9
  · exact lv_tableIn (off := 447) (tgt := 486) S.1 S.2.1 dL_law_39 (by rw [c9]; decide) (by rw [c9]; decide) (by rw [c9]; rfl) (by decide) (h9 c9)
  by_cases c10 : v = 10
  · exact lv_tableIn (off := 503) (tgt := 542) S.1 S.2.1 dL_law_39 (by rw [c10]; decide) (by rw [c10]; decide) (by rw [c10]; rfl) (by decide) (h10 c10)
  by_cases c11 : v = 11
  · exact lv_tableIn (off := 559) (tgt := 598) S.1 S.2.1 dL_law_39 (by rw [c11]; decide) (by rw [c11]; decide) (by rw [c11]; rfl) (by decide) (h11 c11)
  by_cases c12 : v = 12
  · exact lv_tableIn (off := 639) (tgt := 678) S.1 S.2.1 dL_law_39 (by rw [c12]; decide) (by rw [c12]; decide) (by rw [c12]; rfl) (by decide) (h12 c12)
  by_cases c13 : v = 13
  · exact lv_tableIn (off := 707) (tgt := 746) S.1 S.2.1 dL_law_39 (by rw [c13]; decide) (by rw [c13]; decide) (by rw [c13]; rfl) (by decide) (h13 c13)
  by_cases c14 : v = 14
  · exact lv_tableIn (off := 720) (tgt := 759) S.1 S.2.1 dL_law_39 (by rw [c14]; decide) (by rw [c14]; decide) (by rw [c14]; rfl) (by decide) (h14 c14)
  by_cases c15 : v = 15
  · exact lv_tableIn (off := 788) (tgt := 827) S.1 S.2.1 dL_law_39 (by rw [c15]; decide) (by rw [c15]; decide) (by rw [c15]; rfl) (by decide) (h15 c15)
  by_cases c16 : v = 16
  · exact lv_tableIn (off := 856) (tgt := 895) S.1 S.2.1 dL_law_39 (by rw [c16]; decide) (by rw [c16]; decide) (by rw [c16]; rfl) (by decide) (h16 c16)
  by_cases c17 : v = 17
  · exact lv_tableIn (off := 924) (tgt := 963) S.1 S.2.1 dL_law_39 (by rw [c17]; decide) (by rw [c17]; decide) (by rw [c17]; rfl) (by decide) (h17 c17)
  by_cases c18 : v = 18
  · exact lv_tableIn (off := 1004) (tgt := 1043) S.1 S.2.1 dL_law_39 (by rw [c18]; decide) (by rw [c18]; decide) (by rw [c18]; rfl) (by decide) (h18 c18)
  by_cases c19 : v = 19
  · exact lv_tableIn (off := 1072) (tgt := 1111) S.1 S.2.1 dL_law_39 (by rw [c19]; decide) (by rw [c19]; decide) (by rw [c19]; rfl) (by decide) (h19 c19)
  by_cases c20 : v = 20
  · exact lv_tableIn (off := 1140) (tgt := 1179) S.1 S.2.1 dL_law_39 (by rw [c20]; decide) (by rw [c20]; decide) (by rw [c20]; rfl) (by decide) (h20 c20)
  by_cases c21 : v = 21
  · exact lv_tableIn (off := 1208) (tgt := 1247) S.1 S.2.1 dL_law_39 (by rw [c21]; decide) (by rw [c21]; decide) (by rw [c21]; rfl) (by decide) (h21 c21)
  by_cases c22 : v = 22
  · exact lv_tableIn (off := 1288) (tgt := 1327) S.1 S.2.1 dL_law_39 (by rw [c22]; decide) (by rw [c22]; decide) (by rw [c22]; rfl) (by decide) (h22 c22)
  by_cases c23 : v = 23
  · exact lv_tableIn (off := 1356) (tgt := 1395) S.1 S.2.1 dL_law_39 (by rw [c23]; decide) (by rw [c23]; decide) (by rw [c23]; rfl) (by decide) (h23 c23)
  by_cases c24 : v = 24
  · exact lv_tableIn (off := 1431) (tgt := 1470) S.1 S.2.1 dL_law_39 (by rw [c24]; decide) (by rw [c24]; decide) (by rw [c24]; rfl) (by decide) (h24 c24)
  exact lv_tableOut (tgt := 1545) S.1 S.2.1 dL_law_39 (by have e0 := lv_neT c0 (a := 0) (by decide); have e1 := lv_neT c1 (a := 1) (by decide); have e2 := lv_neT c2 (a := 2) (by decide); have e3 := lv_neT c3 (a := 3) (by decide); have e4 := lv_neT c4 (a := 4) (by decide); have e5 := lv_neT c5 (a := 5) (by decide); have e6 := lv_neT c6 (a := 6) (by decide); have e7 := lv_neT c7 (a := 7) (by decide); have e8 := lv_neT c8 (a := 8) (by decide); have e9 := lv_neT c9 (a := 9) (by decide); have e10 := lv_neT c10 (a := 10) (by decide); have e11 := lv_neT c11 (a := 11) (by decide); have e12 := lv_neT c12 (a := 12) (by decide); have e13 := lv_neT c13 (a := 13) (by decide); have e14 := lv_neT c14 (a := 14) (by decide); have e15 := lv_neT c15 (a := 15) (by decide); have e16 := lv_neT c16 (a := 16) (by decide); have e17 := lv_neT c17 (a := 17) (by decide); have e18 := lv_neT c18 (a := 18) (by decide); have e19 := lv_neT c19 (a := 19) (by decide); have e20 := lv_neT c20 (a := 20) (by decide); have e21 := lv_neT c21 (a := 21) (by decide); have e22 := lv_neT c22 (a := 22) (by decide); have e23 := lv_neT c23 (a := 23) (by decide); have e24 := lv_neT c24 (a := 24) (by decide); omega) (by decide) hd
