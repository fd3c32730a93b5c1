set_option maxHeartbeats 4000000 in
set_option maxRecDepth 100000 in
theorem tLaw_20 (l : Launch) (hlf : l.stackTraces = false) (sa : Nat → Nat) (D : va_G) (cI cC cZ cL : ClassId) (h o hm : Nat) (a b d z q am : Nat → Nat) (Fp : xF) (Gp : xG) (Fo : xF) (Go : xG) (Fz : xF) (Gz : xG) (Fq : xF) (Gq : xG) (f : Nat → Int64) (F : xF) (G : xG) {p : Program} {e : Env} {s : State} {m : MethodId} {args : Array Value} {below : List Frame} {meth : Method} {c : Code} {A : Nat → Prop} {Q : State → Prop} {H : Heap} {locs : List Loc} {cells slots : Nat} {ls : Array Slot} {b0 L : Nat} {xs : Nat → Int32} {i : Int32} (S : CallFix p m c cL_law 7 s args wsL_law RL) (Z : yZ sa A s s.heap) (hX : va_X b0 L xs s s.heap) (hbl : b0 < s.heap.size) (hbA : ¬ A b0) (I : xI D A s (wL cI cC cZ cL h a b d z q Fp Gp Fo Go Fz Gz Fq Gq o f hm am F G) (xTL cI cC cZ cL) H locs) (hl : lv_has ls 7 [(4, .int i), (3, .ref o), (2, .ref hm), (1, .ref h), (0, .ref b0)]) (hcs : cells + 1 ≤ 1108 ∧ slots + 6 ≤ 19580) (hi1 : vp_in (i + 1) L) (hi2 : vp_in (i + 2) L) {k r r' : Int32} {Gq' : xG} {F' : xF} (hx9 : ¬ k = 0 → k = 1) (hfx : fX5_reducesAnew Fq Gq (xs (i + 1).toNatClampNeg) (xs (i + 2).toNatClampNeg) = some (k, r, Gq')) (hfm : fX6_reducesAnew F G (xs (i + 1).toNatClampNeg) (xs (i + 2).toNatClampNeg) = some (r', F')) (ht : fX6_thrown F' = some k) (hv : k = 0 → r = r') (kk : ∀ (H1 : Heap) (locs1 : List Loc) (ls1 : Array Slot) (f1 : Nat → Int64), xI D A s (wL cI cC cZ cL h a b d z q Fp Gp Fo Go Fz Gz Fq Gq' o f1 hm am F' G) (xTL cI cC cZ cL) H1 locs1 → lv_has ls1 7 [(4, .int i), (3, .ref o), (2, .ref hm), (1, .ref h), (0, .ref b0)] → W p l e room_1 s m args below meth c H1 locs1 (cells + 1) (slots + 6) Q (F0 m 1545 ls1 [])) : W p l e room_1 s m args below meth c H locs cells slots Q (F0 m 1179 ls []) := by
  refine lv_aload_n S.1 S.2.1 dL_law_1179 rfl (lv_at hl 3 rfl) ?_
  refine lv_aload_n S.1 S.2.1 dL_law_1180 rfl (lv_at hl 4 rfl) ?_
  refine lv_iload S.1 S.2.1 dL_law_1181 (lv_at hl 0 rfl) ?_
  refine lv_iconst (v := 1) S.1 S.2.1 dL_law_1183 (by decide) ?_
  refine lv_iadd S.1 S.2.1 dL_law_1184 ?_
  refine l_sld S I hX hbl hbA hi1 dL_law_1185 ?_
  refine lv_aload_n S.1 S.2.1 dL_law_1186 rfl (lv_at hl 4 rfl) ?_
  refine lv_iload S.1 S.2.1 dL_law_1187 (lv_at hl 0 rfl) ?_
  refine lv_iconst (v := 2) S.1 S.2.1 dL_law_1189 (by decide) ?_
  refine lv_iadd S.1 S.2.1 dL_law_1190 ?_
  refine l_sld S I hX hbl hbA hi2 dL_law_1191 ?_
  refine lv_aload_n S.1 S.2.1 dL_law_1192 rfl (lv_at hl 1 rfl) ?_
  refine l_c7 (As := [.ref h, .int (xs (i + 1).toNatClampNeg), .int (xs (i + 2).toNatClampNeg), .ref o]) (rest := []) (Fp' := Fp) (Gp' := Gp) (Fo' := Fo) (Go' := Go) (Fz' := Fz) (Gz' := Gz) (Fq' := Fq) (Gq' := Gq') (f' := (if k = 0 then vp_updL f 0 r.toInt64 else f)) S I Z (tL_reducesAnew l hlf sa D cI cC cZ cL h o a b d z q Fp Gp Fo Go Fz Gz Fq Gq f (xs (i + 1).toNatClampNeg) (xs (i + 2).toNatClampNeg) (k, r, Gq') hx9 hfx) rfl (vx_cwSW 4 S.2.2.2.2 gL_law_L_reducesAnew rfl rfl rfl (by decide +kernel) ⟨Nat.le_of_ble_eq_true rfl, Nat.le_of_ble_eq_true rfl⟩) hl rfl (Nat.le_of_ble_eq_true rfl) hcs dL_law_1193 (fun H locs I => ?_)
  refine W.eq (g2 := F0 m 1196 ls [.int k]) rfl ?_
  refine lv_istore (lv' := [(5, .int k), (4, .int i), (3, .ref o), (2, .ref hm), (1, .ref h), (0, .ref b0)]) S.1 S.2.1 dL_law_1196 hl (by decide) rfl (fun ls hl => ?_)
  refine lv_aload_n S.1 S.2.1 dL_law_1198 rfl (lv_at hl 3 rfl) ?_
  refine lv_aload_n S.1 S.2.1 dL_law_1199 rfl (lv_at hl 5 rfl) ?_
  refine lv_iload S.1 S.2.1 dL_law_1200 (lv_at hl 1 rfl) ?_
  refine lv_iconst (v := 1) S.1 S.2.1 dL_law_1202 (by decide) ?_
  refine lv_iadd S.1 S.2.1 dL_law_1203 ?_
  refine l_sld S I hX hbl hbA hi1 dL_law_1204 ?_
  refine lv_aload_n S.1 S.2.1 dL_law_1205 rfl (lv_at hl 5 rfl) ?_
  refine lv_iload S.1 S.2.1 dL_law_1206 (lv_at hl 1 rfl) ?_
  refine lv_iconst (v := 2) S.1 S.2.1 dL_law_1208 (by decide) ?_
  refine lv_iadd S.1 S.2.1 dL_law_1209 ?_
  refine l_sld S I hX hbl hbA hi2 dL_law_1210 ?_
  refine l_c6 (As := [.int (xs (i + 1).toNatClampNeg), .int (xs (i + 2).toNatClampNeg)]) (rest := []) (st' := [.int r']) (F' := F') (G' := G) S I (tX6_reducesAnew l D cI cC cZ hm am F G (xs (i + 1).toNatClampNeg) (xs (i + 2).toNatClampNeg) (r', F') hfm) rfl (cwV 2 S.2.2.2.2 gL_law_X6_reducesAnew rfl rfl rfl (by decide +kernel) ⟨Nat.le_of_ble_eq_true rfl, Nat.le_of_ble_eq_true rfl⟩) hl rfl (Nat.le_of_ble_eq_true rfl) hcs rfl dL_law_1211 (fun H locs I => ?_)
  refine lv_istore (lv' := [(6, .int r'), (5, .int k), (4, .int i), (3, .ref o), (2, .ref hm), (1, .ref h), (0, .ref b0)]) S.1 S.2.1 dL_law_1214 hl (by decide) rfl (fun ls hl => ?_)
  refine lv_aload_n S.1 S.2.1 dL_law_1216 rfl (lv_at hl 4 rfl) ?_
  refine l_c6 (As := []) (rest := []) (st' := [.int k]) (F' := F') (G' := G) S I (tX6_thrown l D cI cC cZ hm am F' G k ht) rfl (cwV 0 S.2.2.2.2 gL_law_X6_thrown rfl rfl rfl (by decide +kernel) ⟨Nat.le_of_ble_eq_true rfl, Nat.le_of_ble_eq_true rfl⟩) hl rfl (Nat.le_of_ble_eq_true rfl) hcs rfl dL_law_1217 (fun H locs I => ?_)
  refine lv_iload S.1 S.2.1 dL_law_1220 (lv_at hl 1 rfl) ?_
  refine lv_icmp_eq (tgt := 1227) S.1 S.2.1 dL_law_1222 (by decide) (fun c1 => ?_) (fun c1 => absurd rfl c1)
  refine lv_iload S.1 S.2.1 dL_law_1227 (lv_at hl 1 rfl) ?_
  refine lv_if_ne (tgt := 1244) S.1 S.2.1 dL_law_1229 (by decide) (fun c2 => ?_) (fun c2 => ?_)
  · refine lv_goto (tgt := 1545) S.1 S.2.1 dL_law_1244 (by decide) ?_
    exact kk _ _ _ _ I (lv_sub hl [2, 3, 4, 5, 6] rfl)
  refine lv_aload_n S.1 S.2.1 dL_law_1232 rfl (lv_at hl 3 rfl) ?_
  refine lv_iconst (v := 0) S.1 S.2.1 dL_law_1233 (by decide) ?_
  refine l_c8 S I dL_law_1234 ?_
  refine lv_iload S.1 S.2.1 dL_law_1235 (lv_at hl 0 rfl) ?_
  refine lv_i2l (v := r'.toInt64) S.1 S.2.1 dL_law_1237 rfl ?_
  refine W.lcmp S.1 S.2.1 dL_law_1238 ?_
  refine lv_if_eq (tgt := 1244) S.1 S.2.1 dL_law_1239 (by decide) (fun c3 => ?_) (fun c3 => absurd (l_cmp0 ((l_f0 c2).trans (by rw [hv c2]))) c3)
  refine lv_goto (tgt := 1545) S.1 S.2.1 dL_law_1244 (by decide) ?_
  exact kk _ _ _ _ I (lv_sub hl [2, 3, 4, 5, 6] rfl)
set_option maxHeartbeats 4000000 in
set_option maxRecDepth 100000 in
theorem tLaw_21 (l : Launch) (hlf : l.stackTraces = false) (sa : Nat → Nat) (D : va_G) (cI cC cZ cL : ClassId) (h o hm : Nat) (a b d z q am : Nat → Nat) (Fp : xF) (Gp : xG) (Fo : xF) (Go : xG) (Fz : xF) (Gz : xG) (Fq : xF) (Gq : xG) (f : Nat → Int64) (F : xF) (G : xG) {p : Program} {e : Env} {s : State} {m : MethodId} {args : Array Value} {below : List Frame} {meth : Method} {c : Code} {A : Nat → Prop} {Q : State → Prop} {H : Heap} {locs : List Loc} {cells slots : Nat} {ls : Array Slot} {b0 L : Nat} {xs : Nat → Int32} {i : Int32} (S : CallFix p m c cL_law 7 s args wsL_law RL) (Z : yZ sa A s s.heap) (hX : va_X b0 L xs s s.heap) (hbl : b0 < s.heap.size) (hbA : ¬ A b0) (I : xI D A s (wL cI cC cZ cL h a b d z q Fp Gp Fo Go Fz Gz Fq Gq o f hm am F G) (xTL cI cC cZ cL) H locs) (hl : lv_has ls 7 [(4, .int i), (3, .ref o), (2, .ref hm), (1, .ref h), (0, .ref b0)]) (hcs : cells + 1 ≤ 1108 ∧ slots + 6 ≤ 19580) (hi1 : vp_in (i + 1) L) (hi2 : vp_in (i + 2) L) (hi3 : vp_in (i + 3) L) {k r r' : Int32} {Gq' : xG} {F' : xF} (hx9 : ¬ k = 0 → k = 1) (hfx : fX5_forth Fq Gq (xs (i + 1).toNatClampNeg) (xs (i + 2).toNatClampNeg) (xs (i + 3).toNatClampNeg) = some (k, r, Gq')) (hfm : fX6_forth F G (xs (i + 1).toNatClampNeg) (xs (i + 2).toNatClampNeg) (xs (i + 3).toNatClampNeg) = some (r', F')) (ht : fX6_thrown F' = some k) (hv : k = 0 → r = r') (kk : ∀ (H1 : Heap) (locs1 : List Loc) (ls1 : Array Slot) (f1 : Nat → Int64), xI D A s (wL cI cC cZ cL h a b d z q Fp Gp Fo Go Fz Gz Fq Gq' o f1 hm am F' G) (xTL cI cC cZ cL) H1 locs1 → lv_has ls1 7 [(4, .int i), (3, .ref o), (2, .ref hm), (1, .ref h), (0, .ref b0)] → W p l e room_1 s m args below meth c H1 locs1 (cells + 1) (slots + 6) Q (F0 m 1545 ls1 [])) : W p l e room_1 s m args below meth c H locs cells slots Q (F0 m 1247 ls []) := by
  refine lv_aload_n S.1 S.2.1 dL_law_1247 rfl (lv_at hl 3 rfl) ?_
  refine lv_aload_n S.1 S.2.1 dL_law_1248 rfl (lv_at hl 4 rfl) ?_
  refine lv_iload S.1 S.2.1 dL_law_1249 (lv_at hl 0 rfl) ?_
  refine lv_iconst (v := 1) S.1 S.2.1 dL_law_1251 (by decide) ?_
  refine lv_iadd S.1 S.2.1 dL_law_1252 ?_
  refine l_sld S I hX hbl hbA hi1 dL_law_1253 ?_
  refine lv_aload_n S.1 S.2.1 dL_law_1254 rfl (lv_at hl 4 rfl) ?_
  refine lv_iload S.1 S.2.1 dL_law_1255 (lv_at hl 0 rfl) ?_
  refine lv_iconst (v := 2) S.1 S.2.1 dL_law_1257 (by decide) ?_
  refine lv_iadd S.1 S.2.1 dL_law_1258 ?_
  refine l_sld S I hX hbl hbA hi2 dL_law_1259 ?_
  refine lv_aload_n S.1 S.2.1 dL_law_1260 rfl (lv_at hl 4 rfl) ?_
  refine lv_iload S.1 S.2.1 dL_law_1261 (lv_at hl 0 rfl) ?_
  refine lv_iconst (v := 3) S.1 S.2.1 dL_law_1263 (by decide) ?_
  refine lv_iadd S.1 S.2.1 dL_law_1264 ?_
  refine l_sld S I hX hbl hbA hi3 dL_law_1265 ?_
  refine lv_aload_n S.1 S.2.1 dL_law_1266 rfl (lv_at hl 1 rfl) ?_
  refine l_c7 (As := [.ref h, .int (xs (i + 1).toNatClampNeg), .int (xs (i + 2).toNatClampNeg), .int (xs (i + 3).toNatClampNeg), .ref o]) (rest := []) (Fp' := Fp) (Gp' := Gp) (Fo' := Fo) (Go' := Go) (Fz' := Fz) (Gz' := Gz) (Fq' := Fq) (Gq' := Gq') (f' := (if k = 0 then vp_updL f 0 r.toInt64 else f)) S I Z (tL_forth l hlf sa D cI cC cZ cL h o a b d z q Fp Gp Fo Go Fz Gz Fq Gq f (xs (i + 1).toNatClampNeg) (xs (i + 2).toNatClampNeg) (xs (i + 3).toNatClampNeg) (k, r, Gq') hx9 hfx) rfl (vx_cwSW 5 S.2.2.2.2 gL_law_L_forth rfl rfl rfl (by decide +kernel) ⟨Nat.le_of_ble_eq_true rfl, Nat.le_of_ble_eq_true rfl⟩) hl rfl (Nat.le_of_ble_eq_true rfl) hcs dL_law_1267 (fun H locs I => ?_)
  refine W.eq (g2 := F0 m 1270 ls [.int k]) rfl ?_
  refine lv_istore (lv' := [(5, .int k), (4, .int i), (3, .ref o), (2, .ref hm), (1, .ref h), (0, .ref b0)]) S.1 S.2.1 dL_law_1270 hl (by decide) rfl (fun ls hl => ?_)
  refine lv_aload_n S.1 S.2.1 dL_law_1272 rfl (lv_at hl 3 rfl) ?_
  refine lv_aload_n S.1 S.2.1 dL_law_1273 rfl (lv_at hl 5 rfl) ?_
  refine lv_iload S.1 S.2.1 dL_law_1274 (lv_at hl 1 rfl) ?_
  refine lv_iconst (v := 1) S.1 S.2.1 dL_law_1276 (by decide) ?_
  refine lv_iadd S.1 S.2.1 dL_law_1277 ?_
  refine l_sld S I hX hbl hbA hi1 dL_law_1278 ?_
  refine lv_aload_n S.1 S.2.1 dL_law_1279 rfl (lv_at hl 5 rfl) ?_
  refine lv_iload S.1 S.2.1 dL_law_1280 (lv_at hl 1 rfl) ?_
  refine lv_iconst (v := 2) S.1 S.2.1 dL_law_1282 (by decide) ?_
  refine lv_iadd S.1 S.2.1 dL_law_1283 ?_
  refine l_sld S I hX hbl hbA hi2 dL_law_1284 ?_
  refine lv_aload_n S.1 S.2.1 dL_law_1285 rfl (lv_at hl 5 rfl) ?_
  refine lv_iload S.1 S.2.1 dL_law_1286 (lv_at hl 1 rfl) ?_
  refine lv_iconst (v := 3) S.1 S.2.1 dL_law_1288 (by decide) ?_
  refine lv_iadd S.1 S.2.1 dL_law_1289 ?_
  refine l_sld S I hX hbl hbA hi3 dL_law_1290 ?_
  refine l_c6 (As := [.int (xs (i + 1).toNatClampNeg), .int (xs (i + 2).toNatClampNeg), .int (xs (i + 3).toNatClampNeg)]) (rest := []) (st' := [.int r']) (F' := F') (G' := G) S I (tX6_forth l D cI cC cZ hm am F G (xs (i + 1).toNatClampNeg) (xs (i + 2).toNatClampNeg) (xs (i + 3).toNatClampNeg) (r', F') hfm) rfl (cwV 3 S.2.2.2.2 gL_law_X6_forth rfl rfl rfl (by decide +kernel) ⟨Nat.le_of_ble_eq_true rfl, Nat.le_of_ble_eq_true rfl⟩) hl rfl (Nat.le_of_ble_eq_true rfl) hcs rfl dL_law_1291 (fun H locs I => ?_)
  refine lv_istore (lv' := [(6, .int r'), (5, .int k), (4, .int i), (3, .ref o), (2, .ref hm), (1, .ref h), (0, .ref b0)]) S.1 S.2.1 dL_law_1294 hl (by decide) rfl (fun ls hl => ?_)
  refine lv_aload_n S.1 S.2.1 dL_law_1296 rfl (lv_at hl 4 rfl) ?_
  refine l_c6 (As := []) (rest := []) (st' := [.int k]) (F' := F') (G' := G) S I (tX6_thrown l D cI cC cZ hm am F' G k ht) rfl (cwV 0 S.2.2.2.2 gL_law_X6_thrown rfl rfl rfl (by decide +kernel) ⟨Nat.le_of_ble_eq_true rfl, Nat.le_of_ble_eq_true rfl⟩) hl rfl (Nat.le_of_ble_eq_true rfl) hcs rfl dL_law_1297 (fun H locs I => ?_)
  refine lv_iload S.1 S.2.1 dL_law_1300 (lv_at hl 1 rfl) ?_
  refine lv_icmp_eq (tgt := 1307) S.1 S.2.1 dL_law_1302 (by decide) (fun c1 => ?_) (fun c1 => absurd rfl c1)
  refine lv_iload S.1 S.2.1 dL_law_1307 (lv_at hl 1 rfl) ?_
  refine lv_if_ne (tgt := 1324) S.1 S.2.1 dL_law_1309 (by decide) (fun c2 => ?_) (fun c2 => ?_)
  · refine lv_goto (tgt := 1545) S.1 S.2.1 dL_law_1324 (by decide) ?_
    exact kk _ _ _ _ I (lv_sub hl [2, 3, 4, 5, 6] rfl)
  refine lv_aload_n S.1 S.2.1 dL_law_1312 rfl (lv_at hl 3 rfl) ?_
  refine lv_iconst (v := 0) S.1 S.2.1 dL_law_1313 (by decide) ?_
  refine l_c8 S I dL_law_1314 ?_
  refine lv_iload S.1 S.2.1 dL_law_1315 (lv_at hl 0 rfl) ?_
  refine lv_i2l (v := r'.toInt64) S.1 S.2.1 dL_law_1317 rfl ?_
  refine W.lcmp S.1 S.2.1 dL_law_1318 ?_
  refine lv_if_eq (tgt := 1324) S.1 S.2.1 dL_law_1319 (by decide) (fun c3 => ?_) (fun c3 => absurd (l_cmp0 ((l_f0 c2).trans (by rw [hv c2]))) c3)
  refine lv_goto (tgt := 1545) S.1 S.2.1 dL_law_1324 (by decide) ?_
  exact kk _ _ _ _ I (lv_sub hl [2, 3, 4, 5, 6] rfl)
set_option maxHeartbeats 4000000 in
set_option maxRecDepth 100000 in
theorem tLaw_22 (l : Launch) (hlf : l.stackTraces = false) (sa : Nat → Nat) (D : va_G) (cI cC cZ cL : ClassId) (h o hm : Nat) (a b d z q am : Nat → Nat) (Fp : xF) (Gp : xG) (Fo : xF) (Go : xG) (Fz : xF) (Gz : xG) (Fq : xF) (Gq : xG) (f : Nat → Int64) (F : xF) (G : xG) {p : Program} {e : Env} {s : State} {m : MethodId} {args : Array Value} {below : List Frame} {meth : Method} {c : Code} {A : Nat → Prop} {Q : State → Prop} {H : Heap} {locs : List Loc} {cells slots : Nat} {ls : Array Slot} {b0 L : Nat} {xs : Nat → Int32} {i : Int32} (S : CallFix p m c cL_law 7 s args wsL_law RL) (Z : yZ sa A s s.heap) (hX : va_X b0 L xs s s.heap) (hbl : b0 < s.heap.size) (hbA : ¬ A b0) (I : xI D A s (wL cI cC cZ cL h a b d z q Fp Gp Fo Go Fz Gz Fq Gq o f hm am F G) (xTL cI cC cZ cL) H locs) (hl : lv_has ls 7 [(4, .int i), (3, .ref o), (2, .ref hm), (1, .ref h), (0, .ref b0)]) (hcs : cells + 1 ≤ 1108 ∧ slots + 6 ≤ 19580) (hi1 : vp_in (i + 1) L) (hi2 : vp_in (i + 2) L) {k r r' : Int32}  {F' : xF} (hx9 : ¬ k = 0 → ¬ k = 1 → k = 2) (hfx : fX5_ofProblem Fq Gq (xs (i + 1).toNatClampNeg) (xs (i + 2).toNatClampNeg) = some (k, r)) (hfm : fX6_ofProblem F G (xs (i + 1).toNatClampNeg) (xs (i + 2).toNatClampNeg) = some (r', F')) (ht : fX6_thrown F' = some k) (hv : k = 0 → r = r') (kk : ∀ (H1 : Heap) (locs1 : List Loc) (ls1 : Array Slot) (f1 : Nat → Int64), xI D A s (wL cI cC cZ cL h a b d z q Fp Gp Fo Go Fz Gz Fq Gq o f1 hm am F' G) (xTL cI cC cZ cL) H1 locs1 → lv_has ls1 7 [(4, .int i), (3, .ref o), (2, .ref hm), (1, .ref h), (0, .ref b0)] → W p l e room_1 s m args below meth c H1 locs1 (cells + 1) (slots + 6) Q (F0 m 1545 ls1 [])) : W p l e room_1 s m args below meth c H locs cells slots Q (F0 m 1327 ls []) := by
  refine lv_aload_n S.1 S.2.1 dL_law_1327 rfl (lv_at hl 3 rfl) ?_
  refine lv_aload_n S.1 S.2.1 dL_law_1328 rfl (lv_at hl 4 rfl) ?_
  refine lv_iload S.1 S.2.1 dL_law_1329 (lv_at hl 0 rfl) ?_
  refine lv_iconst (v := 1) S.1 S.2.1 dL_law_1331 (by decide) ?_
  refine lv_iadd S.1 S.2.1 dL_law_1332 ?_
  refine l_sld S I hX hbl hbA hi1 dL_law_1333 ?_
  refine lv_aload_n S.1 S.2.1 dL_law_1334 rfl (lv_at hl 4 rfl) ?_
  refine lv_iload S.1 S.2.1 dL_law_1335 (lv_at hl 0 rfl) ?_
  refine lv_iconst (v := 2) S.1 S.2.1 dL_law_1337 (by decide) ?_
  refine lv_iadd S.1 S.2.1 dL_law_1338 ?_
  refine l_sld S I hX hbl hbA hi2 dL_law_1339 ?_
  refine lv_aload_n S.1 S.2.1 dL_law_1340 rfl (lv_at hl 1 rfl) ?_
  refine l_c7 (As := [.ref h, .int (xs (i + 1).toNatClampNeg), .int (xs (i + 2).toNatClampNeg), .ref o]) (rest := []) (Fp' := Fp) (Gp' := Gp) (Fo' := Fo) (Go' := Go) (Fz' := Fz) (Gz' := Gz) (Fq' := Fq) (Gq' := Gq) (f' := (if k = 0 then vp_updL f 0 r.toInt64 else f)) S I Z (tL_ofProblem l hlf sa D cI cC cZ cL h o a b d z q Fp Gp Fo Go Fz Gz Fq Gq f (xs (i + 1).toNatClampNeg) (xs (i + 2).toNatClampNeg) (k, r) hx9 hfx) rfl (vx_cwSW 4 S.2.2.2.2 gL_law_L_ofProblem rfl rfl rfl (by decide +kernel) ⟨Nat.le_of_ble_eq_true rfl, Nat.le_of_ble_eq_true rfl⟩) hl rfl (Nat.le_of_ble_eq_true rfl) hcs dL_law_1341 (fun H locs I => ?_)
  refine W.eq (g2 := F0 m 1344 ls [.int k]) rfl ?_
  refine lv_istore (lv' := [(5, .int k), (4, .int i), (3, .ref o), (2, .ref hm), (1, .ref h), (0, .ref b0)]) S.1 S.2.1 dL_law_1344 hl (by decide) rfl (fun ls hl => ?_)
  refine lv_aload_n S.1 S.2.1 dL_law_1346 rfl (lv_at hl 3 rfl) ?_
  refine lv_aload_n S.1 S.2.1 dL_law_1347 rfl (lv_at hl 5 rfl) ?_
  refine lv_iload S.1 S.2.1 dL_law_1348 (lv_at hl 1 rfl) ?_
  refine lv_iconst (v := 1) S.1 S.2.1 dL_law_1350 (by decide) ?_
  refine lv_iadd S.1 S.2.1 dL_law_1351 ?_
  refine l_sld S I hX hbl hbA hi1 dL_law_1352 ?_
  refine lv_aload_n S.1 S.2.1 dL_law_1353 rfl (lv_at hl 5 rfl) ?_
  refine lv_iload S.1 S.2.1 dL_law_1354 (lv_at hl 1 rfl) ?_
  refine lv_iconst (v := 2) S.1 S.2.1 dL_law_1356 (by decide) ?_
  refine lv_iadd S.1 S.2.1 dL_law_1357 ?_
  refine l_sld S I hX hbl hbA hi2 dL_law_1358 ?_
  refine l_c6 (As := [.int (xs (i + 1).toNatClampNeg), .int (xs (i + 2).toNatClampNeg)]) (rest := []) (st' := [.int r']) (F' := F') (G' := G) S I (tX6_ofProblem l D cI cC cZ hm am F G (xs (i + 1).toNatClampNeg) (xs (i + 2).toNatClampNeg) (r', F') hfm) rfl (cwV 2 S.2.2.2.2 gL_law_X6_ofProblem rfl rfl rfl (by decide +kernel) ⟨Nat.le_of_ble_eq_true rfl, Nat.le_of_ble_eq_true rfl⟩) hl rfl (Nat.le_of_ble_eq_true rfl) hcs rfl dL_law_1359 (fun H locs I => ?_)
  refine lv_istore (lv' := [(6, .int r'), (5, .int k), (4, .int i), (3, .ref o), (2, .ref hm), (1, .ref h), (0, .ref b0)]) S.1 S.2.1 dL_law_1362 hl (by decide) rfl (fun ls hl => ?_)
  refine lv_aload_n S.1 S.2.1 dL_law_1364 rfl (lv_at hl 4 rfl) ?_
  refine l_c6 (As := []) (rest := []) (st' := [.int k]) (F' := F') (G' := G) S I (tX6_thrown l D cI cC cZ hm am F' G k ht) rfl (cwV 0 S.2.2.2.2 gL_law_X6_thrown rfl rfl rfl (by decide +kernel) ⟨Nat.le_of_ble_eq_true rfl, Nat.le_of_ble_eq_true rfl⟩) hl rfl (Nat.le_of_ble_eq_true rfl) hcs rfl dL_law_1365 (fun H locs I => ?_)
  refine lv_iload S.1 S.2.1 dL_law_1368 (lv_at hl 1 rfl) ?_
  refine lv_icmp_eq (tgt := 1375) S.1 S.2.1 dL_law_1370 (by decide) (fun c1 => ?_) (fun c1 => absurd rfl c1)
  refine lv_iload S.1 S.2.1 dL_law_1375 (lv_at hl 1 rfl) ?_
  refine lv_if_ne (tgt := 1392) S.1 S.2.1 dL_law_1377 (by decide) (fun c2 => ?_) (fun c2 => ?_)
  · refine lv_goto (tgt := 1545) S.1 S.2.1 dL_law_1392 (by decide) ?_
    exact kk _ _ _ _ I (lv_sub hl [2, 3, 4, 5, 6] rfl)
  refine lv_aload_n S.1 S.2.1 dL_law_1380 rfl (lv_at hl 3 rfl) ?_
  refine lv_iconst (v := 0) S.1 S.2.1 dL_law_1381 (by decide) ?_
  refine l_c8 S I dL_law_1382 ?_
  refine lv_iload S.1 S.2.1 dL_law_1383 (lv_at hl 0 rfl) ?_
  refine lv_i2l (v := r'.toInt64) S.1 S.2.1 dL_law_1385 rfl ?_
  refine W.lcmp S.1 S.2.1 dL_law_1386 ?_
  refine lv_if_eq (tgt := 1392) S.1 S.2.1 dL_law_1387 (by decide) (fun c3 => ?_) (fun c3 => absurd (l_cmp0 ((l_f0 c2).trans (by rw [hv c2]))) c3)
  refine lv_goto (tgt := 1545) S.1 S.2.1 dL_law_1392 (by decide) ?_
  exact kk _ _ _ _ I (lv_sub hl [2, 3, 4, 5, 6] rfl)
set_option maxHeartbeats 4000000 in
set_option maxRecDepth 100000 in
theorem tLaw_23 (l : Launch) (hlf : l.stackTraces = false) (sa : Nat → Nat) (D : va_G) (cI cC cZ cL : ClassId) (h o hm : Nat) (a b d z q am : Nat → Nat) (Fp : xF) (Gp : xG) (Fo : xF) (Go : xG) (Fz : xF) (Gz : xG) (Fq : xF) (Gq : xG) (f : Nat → Int64) (F : xF) (G : xG) {p : Program} {e : Env} {s : State} {m : MethodId} {args : Array Value} {below : List Frame} {meth : Method} {c : Code} {A : Nat → Prop} {Q : State → Prop} {H : Heap} {locs : List Loc} {cells slots : Nat} {ls : Array Slot} {b0 L : Nat} {xs : Nat → Int32} {i : Int32} (S : CallFix p m c cL_law 7 s args wsL_law RL) (Z : yZ sa A s s.heap) (hX : va_X b0 L xs s s.heap) (hbl : b0 < s.heap.size) (hbA : ¬ A b0) (I : xI D A s (wL cI cC cZ cL h a b d z q Fp Gp Fo Go Fz Gz Fq Gq o f hm am F G) (xTL cI cC cZ cL) H locs) (hl : lv_has ls 7 [(4, .int i), (3, .ref o), (2, .ref hm), (1, .ref h), (0, .ref b0)]) (hcs : cells + 1 ≤ 1108 ∧ slots + 6 ≤ 19580) (hi1 : vp_in (i + 1) L) (hi2 : vp_in (i + 2) L) {k r r' : Int32}  {F' : xF} {G' : xG} (hx9 : ¬ k = 0 → k = 1) (hfx : fX5_has (xs (i + 1).toNatClampNeg) (xs (i + 2).toNatClampNeg) = some (k, r)) (hfm : fX6_has F G (xs (i + 1).toNatClampNeg) (xs (i + 2).toNatClampNeg) = some (r', F', G')) (ht : fX6_thrown F' = some k) (hv : k = 0 → r = r') (kk : ∀ (H1 : Heap) (locs1 : List Loc) (ls1 : Array Slot) (f1 : Nat → Int64), xI D A s (wL cI cC cZ cL h a b d z q Fp Gp Fo Go Fz Gz Fq Gq o f1 hm am F' G') (xTL cI cC cZ cL) H1 locs1 → lv_has ls1 7 [(4, .int i), (3, .ref o), (2, .ref hm), (1, .ref h), (0, .ref b0)] → W p l e room_1 s m args below meth c H1 locs1 (cells + 1) (slots + 6) Q (F0 m 1545 ls1 [])) : W p l e room_1 s m args below meth c H locs cells slots Q (F0 m 1395 ls []) := by
  refine lv_aload_n S.1 S.2.1 dL_law_1395 rfl (lv_at hl 3 rfl) ?_
  refine lv_aload_n S.1 S.2.1 dL_law_1396 rfl (lv_at hl 4 rfl) ?_
  refine lv_iload S.1 S.2.1 dL_law_1397 (lv_at hl 0 rfl) ?_
  refine lv_iconst (v := 1) S.1 S.2.1 dL_law_1399 (by decide) ?_
  refine lv_iadd S.1 S.2.1 dL_law_1400 ?_
  refine l_sld S I hX hbl hbA hi1 dL_law_1401 ?_
  refine lv_aload_n S.1 S.2.1 dL_law_1402 rfl (lv_at hl 4 rfl) ?_
  refine lv_iload S.1 S.2.1 dL_law_1403 (lv_at hl 0 rfl) ?_
  refine lv_iconst (v := 2) S.1 S.2.1 dL_law_1405 (by decide) ?_
  refine lv_iadd S.1 S.2.1 dL_law_1406 ?_
  refine l_sld S I hX hbl hbA hi2 dL_law_1407 ?_
  refine lv_aload_n S.1 S.2.1 dL_law_1408 rfl (lv_at hl 1 rfl) ?_
  refine l_c7 (As := [.ref h, .int (xs (i + 1).toNatClampNeg), .int (xs (i + 2).toNatClampNeg), .ref o]) (rest := []) (Fp' := Fp) (Gp' := Gp) (Fo' := Fo) (Go' := Go) (Fz' := Fz) (Gz' := Gz) (Fq' := Fq) (Gq' := Gq) (f' := (if k = 0 then vp_updL f 0 (if r = 0 then 0 else 1) else f)) S I Z (tL_has l hlf sa D cI cC cZ cL h o a b d z q Fp Gp Fo Go Fz Gz Fq Gq f (xs (i + 1).toNatClampNeg) (xs (i + 2).toNatClampNeg) (k, r) hx9 hfx) rfl (vx_cwSW 4 S.2.2.2.2 gL_law_L_has rfl rfl rfl (by decide +kernel) ⟨Nat.le_of_ble_eq_true rfl, Nat.le_of_ble_eq_true rfl⟩) hl rfl (Nat.le_of_ble_eq_true rfl) hcs dL_law_1409 (fun H locs I => ?_)
  refine W.eq (g2 := F0 m 1412 ls [.int k]) rfl ?_
  refine lv_istore (lv' := [(5, .int k), (4, .int i), (3, .ref o), (2, .ref hm), (1, .ref h), (0, .ref b0)]) S.1 S.2.1 dL_law_1412 hl (by decide) rfl (fun ls hl => ?_)
  refine lv_aload_n S.1 S.2.1 dL_law_1414 rfl (lv_at hl 3 rfl) ?_
  refine lv_aload_n S.1 S.2.1 dL_law_1415 rfl (lv_at hl 5 rfl) ?_
  refine lv_iload S.1 S.2.1 dL_law_1416 (lv_at hl 1 rfl) ?_
  refine lv_iconst (v := 1) S.1 S.2.1 dL_law_1418 (by decide) ?_
  refine lv_iadd S.1 S.2.1 dL_law_1419 ?_
  refine l_sld S I hX hbl hbA hi1 dL_law_1420 ?_
  refine lv_aload_n S.1 S.2.1 dL_law_1421 rfl (lv_at hl 5 rfl) ?_
  refine lv_iload S.1 S.2.1 dL_law_1422 (lv_at hl 1 rfl) ?_
  refine lv_iconst (v := 2) S.1 S.2.1 dL_law_1424 (by decide) ?_
  refine lv_iadd S.1 S.2.1 dL_law_1425 ?_
  refine l_sld S I hX hbl hbA hi2 dL_law_1426 ?_
  refine l_c6 (As := [.int (xs (i + 1).toNatClampNeg), .int (xs (i + 2).toNatClampNeg)]) (rest := []) (st' := [.int r']) (F' := F') (G' := G') S I (tX6_has l D cI cC cZ hm am F G (xs (i + 1).toNatClampNeg) (xs (i + 2).toNatClampNeg) (r', F', G') hfm) rfl (cwV 2 S.2.2.2.2 gL_law_X6_has rfl rfl rfl (by decide +kernel) ⟨Nat.le_of_ble_eq_true rfl, Nat.le_of_ble_eq_true rfl⟩) hl rfl (Nat.le_of_ble_eq_true rfl) hcs rfl dL_law_1427 (fun H locs I => ?_)
  refine lv_istore (lv' := [(6, .int r'), (5, .int k), (4, .int i), (3, .ref o), (2, .ref hm), (1, .ref h), (0, .ref b0)]) S.1 S.2.1 dL_law_1430 hl (by decide) rfl (fun ls hl => ?_)
  refine lv_aload_n S.1 S.2.1 dL_law_1432 rfl (lv_at hl 4 rfl) ?_
  refine l_c6 (As := []) (rest := []) (st' := [.int k]) (F' := F') (G' := G') S I (tX6_thrown l D cI cC cZ hm am F' G' k ht) rfl (cwV 0 S.2.2.2.2 gL_law_X6_thrown rfl rfl rfl (by decide +kernel) ⟨Nat.le_of_ble_eq_true rfl, Nat.le_of_ble_eq_true rfl⟩) hl rfl (Nat.le_of_ble_eq_true rfl) hcs rfl dL_law_1433 (fun H locs I => ?_)
  refine lv_iload S.1 S.2.1 dL_law_1436 (lv_at hl 1 rfl) ?_
  refine lv_icmp_eq (tgt := 1443) S.1 S.2.1 dL_law_1438 (by decide) (fun c1 => ?_) (fun c1 => absurd rfl c1)
  refine lv_iload S.1 S.2.1 dL_law_1443 (lv_at hl 1 rfl) ?_
  refine lv_if_ne (tgt := 1467) S.1 S.2.1 dL_law_1445 (by decide) (fun c2 => ?_) (fun c2 => ?_)
  · refine lv_goto (tgt := 1545) S.1 S.2.1 dL_law_1467 (by decide) ?_
    exact kk _ _ _ _ I (lv_sub hl [2, 3, 4, 5, 6] rfl)
  refine lv_aload_n S.1 S.2.1 dL_law_1448 rfl (lv_at hl 3 rfl) ?_
  refine lv_iconst (v := 0) S.1 S.2.1 dL_law_1449 (by decide) ?_
  refine l_c8 S I dL_law_1450 ?_
  refine lv_iload S.1 S.2.1 dL_law_1451 (lv_at hl 0 rfl) ?_
  refine lv_if_eq (tgt := 1460) S.1 S.2.1 dL_law_1453 (by decide) (fun c4 => ?_) (fun c4 => ?_)
  · refine lv_lconst (v := 0) S.1 S.2.1 dL_law_1460 rfl ?_
    refine W.lcmp S.1 S.2.1 dL_law_1461 ?_
    refine lv_if_eq (tgt := 1467) S.1 S.2.1 dL_law_1462 (by decide) (fun c3 => ?_) (fun c3 => absurd (l_cmp0 ((l_f0 c2).trans (if_pos ((hv c2).trans c4)))) c3)
    refine lv_goto (tgt := 1545) S.1 S.2.1 dL_law_1467 (by decide) ?_
    exact kk _ _ _ _ I (lv_sub hl [2, 3, 4, 5, 6] rfl)
  · refine lv_lconst (v := 1) S.1 S.2.1 dL_law_1456 rfl ?_
    refine lv_goto (tgt := 1461) S.1 S.2.1 dL_law_1457 (by decide) ?_
    refine W.lcmp S.1 S.2.1 dL_law_1461 ?_
    refine lv_if_eq (tgt := 1467) S.1 S.2.1 dL_law_1462 (by decide) (fun c3 => ?_) (fun c3 => absurd (l_cmp0 ((l_f0 c2).trans (if_neg (fun z => c4 ((hv c2).symm.trans z))))) c3)
    refine lv_goto (tgt := 1545) S.1 S.2.1 dL_law_1467 (by decide) ?_
    exact kk _ _ _ _ I (lv_sub hl [2, 3, 4, 5, 6] rfl)
set_option maxHeartbeats 4000000 in
set_option maxRecDepth 100000 in
theorem tLaw_24 (l : Launch) (hlf : l.stackTraces = false) (sa : Nat → Nat) (D : va_G) (cI cC cZ cL : ClassId) (h o hm : Nat) (a b d z q am : Nat → Nat) (Fp : xF) (Gp : xG) (Fo : xF) (Go : xG) (Fz : xF) (Gz : xG) (Fq : xF) (Gq : xG) (f : Nat → Int64) (F : xF) (G : xG) {p : Program} {e : Env} {s : State} {m : MethodId} {args : Array Value} {below : List Frame} {meth : Method} {c : Code} {A : Nat → Prop} {Q : State → Prop} {H : Heap} {locs : List Loc} {cells slots : Nat} {ls : Array Slot} {b0 L : Nat} {xs : Nat → Int32} {i : Int32} (S : CallFix p m c cL_law 7 s args wsL_law RL) (Z : yZ sa A s s.heap) (hX : va_X b0 L xs s s.heap) (hbl : b0 < s.heap.size) (hbA : ¬ A b0) (I : xI D A s (wL cI cC cZ cL h a b d z q Fp Gp Fo Go Fz Gz Fq Gq o f hm am F G) (xTL cI cC cZ cL) H locs) (hl : lv_has ls 7 [(4, .int i), (3, .ref o), (2, .ref hm), (1, .ref h), (0, .ref b0)]) (hcs : cells + 1 ≤ 1108 ∧ slots + 6 ≤ 19580) (hi1 : vp_in (i + 1) L) (hi2 : vp_in (i + 2) L) {k r r' : Int32}  {F' : xF} {G' : xG} (hx9 : ¬ k = 0 → k = 1) (hfx : fX5_hasAnew (xs (i + 1).toNatClampNeg) (xs (i + 2).toNatClampNeg) = some (k, r)) (hfm : fX6_hasAnew F G (xs (i + 1).toNatClampNeg) (xs (i + 2).toNatClampNeg) = some (r', F', G')) (ht : fX6_thrown F' = some k) (hv : k = 0 → r = r') (kk : ∀ (H1 : Heap) (locs1 : List Loc) (ls1 : Array Slot) (f1 : Nat → Int64), xI D A s (wL cI cC cZ cL h a b d z q Fp Gp Fo Go Fz Gz Fq Gq o f1 hm am F' G') (xTL cI cC cZ cL) H1 locs1 → lv_has ls1 7 [(4, .int i), (3, .ref o), (2, .ref hm), (1, .ref h), (0, .ref b0)] → W p l e room_1 s m args below meth c H1 locs1 (cells + 1) (slots + 6) Q (F0 m 1545 ls1 [])) : W p l e room_1 s m args below meth c H locs cells slots Q (F0 m 1470 ls []) := by
  refine lv_aload_n S.1 S.2.1 dL_law_1470 rfl (lv_at hl 3 rfl) ?_
  refine lv_aload_n S.1 S.2.1 dL_law_1471 rfl (lv_at hl 4 rfl) ?_
  refine lv_iload S.1 S.2.1 dL_law_1472 (lv_at hl 0 rfl) ?_
  refine lv_iconst (v := 1) S.1 S.2.1 dL_law_1474 (by decide) ?_
  refine lv_iadd S.1 S.2.1 dL_law_1475 ?_
  refine l_sld S I hX hbl hbA hi1 dL_law_1476 ?_
  refine lv_aload_n S.1 S.2.1 dL_law_1477 rfl (lv_at hl 4 rfl) ?_
  refine lv_iload S.1 S.2.1 dL_law_1478 (lv_at hl 0 rfl) ?_
  refine lv_iconst (v := 2) S.1 S.2.1 dL_law_1480 (by decide) ?_
  refine lv_iadd S.1 S.2.1 dL_law_1481 ?_
  refine l_sld S I hX hbl hbA hi2 dL_law_1482 ?_
  refine lv_aload_n S.1 S.2.1 dL_law_1483 rfl (lv_at hl 1 rfl) ?_
  refine l_c7 (As := [.ref h, .int (xs (i + 1).toNatClampNeg), .int (xs (i + 2).toNatClampNeg), .ref o]) (rest := []) (Fp' := Fp) (Gp' := Gp) (Fo' := Fo) (Go' := Go) (Fz' := Fz) (Gz' := Gz) (Fq' := Fq) (Gq' := Gq) (f' := (if k = 0 then vp_updL f 0 (if r = 0 then 0 else 1) else f)) S I Z (tL_hasAnew l hlf sa D cI cC cZ cL h o a b d z q Fp Gp Fo Go Fz Gz Fq Gq f (xs (i + 1).toNatClampNeg) (xs (i + 2).toNatClampNeg) (k, r) hx9 hfx) rfl (vx_cwSW 4 S.2.2.2.2 gL_law_L_hasAnew rfl rfl rfl (by decide +kernel) ⟨Nat.le_of_ble_eq_true rfl, Nat.le_of_ble_eq_true rfl⟩) hl rfl (Nat.le_of_ble_eq_true rfl) hcs dL_law_1484 (fun H locs I => ?_)
  refine W.eq (g2 := F0 m 1487 ls [.int k]) rfl ?_
  refine lv_istore (lv' := [(5, .int k), (4, .int i), (3, .ref o), (2, .ref hm), (1, .ref h), (0, .ref b0)]) S.1 S.2.1 dL_law_1487 hl (by decide) rfl (fun ls hl => ?_)
  refine lv_aload_n S.1 S.2.1 dL_law_1489 rfl (lv_at hl 3 rfl) ?_
  refine lv_aload_n S.1 S.2.1 dL_law_1490 rfl (lv_at hl 5 rfl) ?_
  refine lv_iload S.1 S.2.1 dL_law_1491 (lv_at hl 1 rfl) ?_
  refine lv_iconst (v := 1) S.1 S.2.1 dL_law_1493 (by decide) ?_
  refine lv_iadd S.1 S.2.1 dL_law_1494 ?_
  refine l_sld S I hX hbl hbA hi1 dL_law_1495 ?_
  refine lv_aload_n S.1 S.2.1 dL_law_1496 rfl (lv_at hl 5 rfl) ?_
  refine lv_iload S.1 S.2.1 dL_law_1497 (lv_at hl 1 rfl) ?_
  refine lv_iconst (v := 2) S.1 S.2.1 dL_law_1499 (by decide) ?_
  refine lv_iadd S.1 S.2.1 dL_law_1500 ?_
  refine l_sld S I hX hbl hbA hi2 dL_law_1501 ?_
  refine l_c6 (As := [.int (xs (i + 1).toNatClampNeg), .int (xs (i + 2).toNatClampNeg)]) (rest := []) (st' := [.int r']) (F' := F') (G' := G') S I (tX6_hasAnew l D cI cC cZ hm am F G (xs (i + 1).toNatClampNeg) (xs (i + 2).toNatClampNeg) (r', F', G') hfm) rfl (cwV 2 S.2.2.2.2 gL_law_X6_hasAnew rfl rfl rfl (by decide +kernel) ⟨Nat.le_of_ble_eq_true rfl, Nat.le_of_ble_eq_true rfl⟩) hl rfl (Nat.le_of_ble_eq_true rfl) hcs rfl dL_law_1502 (fun H locs I => ?_)
  refine lv_istore (lv' := [(6, .int r'), (5, .int k), (4, .int i), (3, .ref o), (2, .ref hm), (1, .ref h), (0, .ref b0)]) S.1 S.2.1 dL_law_1505 hl (by decide) rfl (fun ls hl => ?_)
  refine lv_aload_n S.1 S.2.1 dL_law_1507 rfl (lv_at hl 4 rfl) ?_
  refine l_c6 (As := []) (rest := []) (st' := [.int k]) (F' := F') (G' := G') S I (tX6_thrown l D cI cC cZ hm am F' G' k ht) rfl (cwV 0 S.2.2.2.2 gL_law_X6_thrown rfl rfl rfl (by decide +kernel) ⟨Nat.le_of_ble_eq_true rfl, Nat.le_of_ble_eq_true rfl⟩) hl rfl (Nat.le_of_ble_eq_true rfl) hcs rfl dL_law_1508 (fun H locs I => ?_)
  refine lv_iload S.1 S.2.1 dL_law_1511 (lv_at hl 1 rfl) ?_
  refine lv_icmp_eq (tgt := 1518) S.1 S.2.1 dL_law_1513 (by decide) (fun c1 => ?_) (fun c1 => absurd rfl c1)
  refine lv_iload S.1 S.2.1 dL_law_1518 (lv_at hl 1 rfl) ?_
  refine lv_if_ne (tgt := 1542) S.1 S.2.1 dL_law_1520 (by decide) (fun c2 => ?_) (fun c2 => ?_)
  · refine lv_goto (tgt := 1545) S.1 S.2.1 dL_law_1542 (by decide) ?_
    exact kk _ _ _ _ I (lv_sub hl [2, 3, 4, 5, 6] rfl)
  refine lv_aload_n S.1 S.2.1 dL_law_1523 rfl (lv_at hl 3 rfl) ?_
  refine lv_iconst (v := 0) S.1 S.2.1 dL_law_1524 (by decide) ?_
  refine l_c8 S I dL_law_1525 ?_
  refine lv_iload S.1 S.2.1 dL_law_1526 (lv_at hl 0 rfl) ?_
  refine lv_if_eq (tgt := 1535) S.1 S.2.1 dL_law_1528 (by decide) (fun c4 => ?_) (fun c4 => ?_)
  · refine lv_lconst (v := 0) S.1 S.2.1 dL_law_1535 rfl ?_
    refine W.lcmp S.1 S.2.1 dL_law_1536 ?_
    refine lv_if_eq (tgt := 1542) S.1 S.2.1 dL_law_1537 (by decide) (fun c3 => ?_) (fun c3 => absurd (l_cmp0 ((l_f0 c2).trans (if_pos ((hv c2).trans c4)))) c3)
    refine lv_goto (tgt := 1545) S.1 S.2.1 dL_law_1542 (by decide) ?_
    exact kk _ _ _ _ I (lv_sub hl [2, 3, 4, 5, 6] rfl)
  · refine lv_lconst (v := 1) S.1 S.2.1 dL_law_1531 rfl ?_
    refine lv_goto (tgt := 1536) S.1 S.2.1 dL_law_1532 (by decide) ?_
    refine W.lcmp S.1 S.2.1 dL_law_1536 ?_
    refine lv_if_eq (tgt := 1542) S.1 S.2.1 dL_law_1537 (by decide) (fun c3 => ?_) (fun c3 => absurd (l_cmp0 ((l_f0 c2).trans (if_neg (fun z => c4 ((hv c2).symm.trans z))))) c3)
    refine lv_goto (tgt := 1545) S.1 S.2.1 dL_law_1542 (by decide) ?_
    exact kk _ _ _ _ I (lv_sub hl [2, 3, 4, 5, 6] rfl)
