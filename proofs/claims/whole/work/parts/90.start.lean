set_option maxHeartbeats 4000000 in
set_option maxRecDepth 100000 in
/-- the law's end -/
theorem st_end {p : Program} {l : Launch} {e : Env} {s : State} {m : MethodId} {below : List Frame} {meth : Method} {c : Code} {b : Nat} (hx : p.tables.exec = Jvm.exec) (hb : c.code = code) (hr : meth.sig.returnType = ret) (hlocks : meth.locks = false) (k : Nat) (H : Heap) (locs : List Loc) (ls : Array Slot) (hk : k ≤ 512) (hq : ∀ q ∈ locs, s.heap.size ≤ q.base) : W p l e room_1 s m #[Value.ref b] below meth c H locs (52 + k) (11300 + 6 * k) (lw_Z below #[Value.ref b] s) (F0 m 1551 ls []) := by
  refine va_forget hq ?_
  refine W.widen (k := 1108) (n := 19580) (by omega) (by omega) ?_
  refine lv_iconst (v := 1) hx hb dL_law_1551 (by decide) ?_
  exact lw_ret hx hb hr hlocks dL_law_1552
set_option maxHeartbeats 4000000 in
set_option maxRecDepth 100000 in
theorem whole_start {p : Program} {e : Env} {s : State} {m : MethodId} {below : List Frame} {meth : Method} {c : Code} (l : Launch) (hflags : l.flags = flags0) {b L : Nat} {xs : Nat → Int32} (hL : L ≤ 2560) (C0 : lw_At p s m meth c b L xs) : W p l e room_1 s m #[Value.ref b] below meth c s.heap [] 0 0 (lw_Z below #[Value.ref b] s) (entryFrame m ([Value.ref b] : List Value).toArray 7) := by
  obtain ⟨hx, hb, hr, hml, hown, hts, hX, hbl, hlocks, hgv⟩ := C0
  have hlf : l.stackTraces = false := by
    unfold Launch.stackTraces
    rw [hflags]
    decide +kernel
  have hA0 : ∀ q : Nat, q < s.heap.size → ¬ s.heap.size ≤ q := fun q hq => Nat.not_le.mpr hq
  obtain ⟨sa, Z⟩ := st_Z (A := fun q : Nat => s.heap.size ≤ q) hts hgv hA0
  obtain ⟨D, cI, cC, cZ, cL, hK⟩ := st_K hts
  have S : CallFix p m c cL_law 7 s #[Value.ref b] wsL_law RL := ⟨hx, hb, hml, hown, fun w h => hts w (wsL_law_in w h)⟩
  have I : xI D (fun q : Nat => s.heap.size ≤ q) s [] (xTL cI cC cZ cL) s.heap [] := ⟨fun k q h => by simp at h, ⟨fun i j p q h => by simp at h, fun k q h => by simp at h⟩, hK, va_S.rf, fun _ h => h, fun w hw => va_Nw.of (st_nestsT w hw) (hts w (st_nests w hw))⟩
  have hl := lv_entry ([.ref b]) (n := 7) (Nat.le_of_ble_eq_true rfl)
  rw [lg_entry_eq]
  generalize (lg_sl ([.ref b]) ++ List.replicate (7 - (lg_sl ([.ref b])).length) Slot.unset).toArray = ls at hl ⊢
  replace hl : lv_has ls 7 [(0, .ref b)] := hl
  have kX5 : ∀ w ∈ u_ws RX5 TX5 3, w ∈ wsL_law := inlX5
  have kX6 : ∀ w ∈ u_ws RX6 TX6 32, w ∈ wsL_law := inlX6
  refine x_newo (C := RX5) (T := TX5) (N := 3) (ci := 4) (fs := [.null, .null, .null]) S kX5 tyX5 tyX5_ok (by decide +kernel) (by decide +kernel) (by decide +kernel) I rfl (fun j hj => by rcases (show j = 0 ∨ j = 1 ∨ j = 2 by omega) with rfl | rfl | rfl <;> rfl) (Nat.le_of_ble_eq_true rfl) (Nat.le_of_ble_eq_true rfl) dL_law_0 (fun h H I => ?_)
  refine W.widen (k := 1) (n := 3) (Nat.le_of_ble_eq_true rfl) (Nat.le_of_ble_eq_true rfl) ?_
  replace I : xI D (fun q : Nat => s.heap.size ≤ q) s [(h, .inr (4, [.null, .null, .null]))] (xTL cI cC cZ cL) H _ := I
  refine lv_dup S.1 S.2.1 dL_law_3 rfl ?_
  refine k_cI S I [0, 1, 2] rfl (tX5_init l D cI cC cZ h) gL_law_X5_init rfl rfl rfl (by decide +kernel) (by decide +kernel) (by decide +kernel) rfl (by decide +kernel) ⟨Nat.le_of_ble_eq_true rfl, Nat.le_of_ble_eq_true rfl⟩ [0] [] rfl rfl rfl rfl (by decide) hl (Nat.le_of_ble_eq_true rfl) ⟨Nat.le_of_ble_eq_true rfl, Nat.le_of_ble_eq_true rfl⟩ dL_law_4 (fun H locs w hB I => ?_)
  obtain ⟨a, b1, d, z, q, rfl⟩ := hB
  refine W.widen (k := 27) (n := 5526) (Nat.le_of_ble_eq_true rfl) (Nat.le_of_ble_eq_true rfl) ?_
  replace I : xI D (fun q : Nat => s.heap.size ≤ q) s (wX5 cI cC cZ h a b1 d z q xFp0 xG0 xF0 xG0 xF0 xG0 xF0 xG0) (xTL cI cC cZ cL) H _ := I
  refine lv_astore_n (lv' := [(1, .ref h), (0, .ref b)]) S.1 S.2.1 dL_law_7 rfl hl (by decide) rfl (fun ls hl => ?_)
  refine x_newo (C := RX6) (T := TX6) (N := 32) (ci := 5) (fs := [.int 0, .int 0, .null, .int 0, .null, .null, .null, .null, .null, .null, .null, .null, .int 0, .null, .null, .null, .int 0, .null, .int 0, .null, .null, .int 0, .null, .null, .int 0, .null, .null, .int 0, .null, .null, .null, .null]) S kX6 tyX6 tyX6_ok (by decide +kernel) (by decide +kernel) (by decide +kernel) I rfl (fun j hj => by rcases (show j = 0 ∨ j = 1 ∨ j = 2 ∨ j = 3 ∨ j = 4 ∨ j = 5 ∨ j = 6 ∨ j = 7 ∨ j = 8 ∨ j = 9 ∨ j = 10 ∨ j = 11 ∨ j = 12 ∨ j = 13 ∨ j = 14 ∨ j = 15 ∨ j = 16 ∨ j = 17 ∨ j = 18 ∨ j = 19 ∨ j = 20 ∨ j = 21 ∨ j = 22 ∨ j = 23 ∨ j = 24 ∨ j = 25 ∨ j = 26 ∨ j = 27 ∨ j = 28 ∨ j = 29 ∨ j = 30 ∨ j = 31 by omega) with rfl | rfl | rfl | rfl | rfl | rfl | rfl | rfl | rfl | rfl | rfl | rfl | rfl | rfl | rfl | rfl | rfl | rfl | rfl | rfl | rfl | rfl | rfl | rfl | rfl | rfl | rfl | rfl | rfl | rfl | rfl | rfl <;> rfl) (Nat.le_of_ble_eq_true rfl) (Nat.le_of_ble_eq_true rfl) dL_law_8 (fun hm H I => ?_)
  refine W.widen (k := 28) (n := 5558) (Nat.le_of_ble_eq_true rfl) (Nat.le_of_ble_eq_true rfl) ?_
  refine lv_dup S.1 S.2.1 dL_law_11 rfl ?_
  refine k_cI S I [0, 1, 2] rfl (tX6_init l D cI cC cZ hm) gL_law_X6_init rfl rfl rfl (by decide +kernel) (by decide +kernel) (by decide +kernel) rfl (by decide +kernel) ⟨Nat.le_of_ble_eq_true rfl, Nat.le_of_ble_eq_true rfl⟩ [27] [0, 1, 2, 3, 4, 5, 6, 7, 8, 9, 10, 11, 12, 13, 14, 15, 16, 17, 18, 19, 20, 21, 22, 23, 24, 25, 26] rfl rfl rfl rfl (by decide) hl (Nat.le_of_ble_eq_true rfl) ⟨Nat.le_of_ble_eq_true rfl, Nat.le_of_ble_eq_true rfl⟩ dL_law_12 (fun H locs w hB I => ?_)
  obtain ⟨am, rfl⟩ := hB
  refine W.widen (k := 51) (n := 11195) (Nat.le_of_ble_eq_true rfl) (Nat.le_of_ble_eq_true rfl) ?_
  replace I : xI D (fun q : Nat => s.heap.size ≤ q) s (wX5 cI cC cZ h a b1 d z q xFp0 xG0 xF0 xG0 xF0 xG0 xF0 xG0 ++ wX6 cI cC cZ hm am xF0 xG0) (xTL cI cC cZ cL) H _ := I
  refine lv_astore_n (lv' := [(2, .ref hm), (1, .ref h), (0, .ref b)]) S.1 S.2.1 dL_law_15 rfl hl (by decide) rfl (fun ls hl => ?_)
  refine lv_iconst (v := 1) S.1 S.2.1 dL_law_16 (by decide) ?_
  refine x_newa (atype := .long) (ty := .long) (N := 1) (a0 := (1, .inr (.inl (fun _ => 0)))) S rfl (by decide +kernel) I 3 rfl (fun c9 => k_raL s c9) (k_aL 1) (by decide) (by decide) (Nat.le_of_ble_eq_true rfl) (Nat.le_of_ble_eq_true rfl) (Nat.le_of_ble_eq_true rfl) dL_law_17 (fun o H I => ?_)
  refine W.widen (k := 52 + 0) (n := 11300 + 6 * 0) (Nat.le_of_ble_eq_true rfl) (Nat.le_of_ble_eq_true rfl) ?_
  refine lv_astore_n (lv' := [(3, .ref o), (2, .ref hm), (1, .ref h), (0, .ref b)]) S.1 S.2.1 dL_law_19 rfl hl (by decide) rfl (fun ls hl => ?_)
  refine lv_iconst (v := 0) S.1 S.2.1 dL_law_20 (by decide) ?_
  refine lv_istore (lv' := [(4, .int (nI (5 * 0))), (3, .ref o), (2, .ref hm), (1, .ref h), (0, .ref b)]) S.1 S.2.1 dL_law_21 hl (by decide) rfl (fun ls hl => ?_)
  replace I : xI D (fun q : Nat => s.heap.size ≤ q) s (wL cI cC cZ cL h a b1 d z q xFp0 xG0 xF0 xG0 xF0 xG0 xF0 xG0 o (fun _ => 0) hm am xF0 xG0) (xTL cI cC cZ cL) H _ := k_perm I [0, 1, 2, 3, 4, 5, 6, 7, 8, 9, 10, 11, 12, 13, 14, 15, 16, 17, 18, 19, 20, 21, 22, 23, 24, 25, 26, 51, 27, 28, 29, 30, 31, 32, 33, 34, 35, 36, 37, 38, 39, 40, 41, 42, 43, 44, 45, 46, 47, 48, 49, 50] rfl rfl (by decide +kernel)
  exact tLaw_loop (LRg LPg) o_letter o_blank o_fault o_sigma o_pi o_free o_isSo o_principle (o_rule LPg) (o_model LPg) (o_proves LPg) (o_proof LPg) (o_known LPg) (o_open LPg) (o_least LPg) (o_leastAnew LPg) (o_ofPrinciple LPg) (o_problem LPg) (o_product LPg) (o_reduces LPg) (o_reducesAnew LPg) (o_forth LPg) (o_ofProblem LPg) (o_has LPg) (o_hasAnew LPg) l hlf sa D cI cC cZ cL h o hm a b1 d z q am S Z hX hbl (Nat.not_le.mpr hbl) hL
    (fun k H locs ls hk hq => st_end hx hb hr hlocks k H locs ls hk hq) 513 0 rfl (Nat.zero_le L) _ _ _ _ _ _ _ _ _ _ _ st_LR H _ ls I hl
