section GLAW
/-! the law over a script of 136s: each act asks for the principle of an empty page -/
def R9 : Room := { frames := 20, cells := 400, slots := 14000, locals := 600 }
theorem u_num : ∀ n : Nat, n < 100 → (¬ (100 : Int32) ≤ Int32.ofNat n) ∧ vp_in (Int32.ofNat n) 101 ∧ (¬ Int32.ofNat 101 ≤ Int32.ofNat n) ∧ (Int32.ofNat n).toNatClampNeg = n ∧ Int32.ofNat n + Int32.ofInt 1 = Int32.ofNat (n + 1) ∧ (Int32.ofNat n - Int32.ofNat n / 33 * 33 = 32 ↔ n % 33 = 32) := by
  unfold vp_in
  decide +kernel
set_option maxHeartbeats 4000000 in
set_option maxRecDepth 100000 in
theorem law_turn {p : Program} {l : Launch} {e : Env} {s : State} {m : MethodId} {args : Array Value} {below : List Frame} {meth : Method} {c : Code} {Q : State → Prop} {D : va_G} {A : Nat → Prop} {sa : Nat → Nat} {cI cC cZ : ClassId} {h h2 : Nat} {a b d z q a2 b2 d2 z2 q2 : Nat → Nat} {b0 : Nat} {xs : Nat → Int32} {H : Heap} {locs : List Loc} {ls : Array Slot} (hlf : l.stackTraces = false) (S : CallFix p m c cL_law 6 s args wsL_law RL) (Z : yZ sa A s s.heap) (hX : va_X b0 101 xs s s.heap) (hbl : b0 < s.heap.size) (hbA : ¬ A b0) (I : xI D A s (w2 cI cC cZ h h2 a b d z q a2 b2 d2 z2 q2) (xT cI cC cZ) H locs) (n : Nat) (hn : n < 100) (hxs : xs n = 136)
    (hl : lv_has ls 6 [(3, .int (Int32.ofNat n)), (2, .ref h2), (1, .ref h), (0, .ref b0)])
    (kk : ∀ (H1 : Heap) (locs1 : List Loc) (ls1 : Array Slot), xI D A s (w2 cI cC cZ h h2 a b d z q a2 b2 d2 z2 q2) (xT cI cC cZ) H1 locs1 → H.size + (1 + 40 * ((n + 1) / 33 - n / 33)) ≤ H1.size → lv_has ls1 6 [(3, .int (Int32.ofNat (n + 1))), (2, .ref h2), (1, .ref h), (0, .ref b0)] → W p l e R9 s m args below meth c H1 locs1 (54 + (n + 1) + 40 * ((n + 1) / 33)) (11052 + 6 * (n + 1) + 240 * ((n + 1) / 33)) Q (F0 m 18 ls1 [])) :
    W p l e R9 s m args below meth c H locs (54 + n + 40 * (n / 33)) (11052 + 6 * n + 240 * (n / 33)) Q (F0 m 18 ls []) := by
  obtain ⟨f1, f2, f3, f4, f5, f6⟩ := u_num n hn
  obtain ⟨N, hN⟩ : ∃ N : Nat, N = H.size := ⟨_, rfl⟩
  have hz : N + 0 ≤ H.size := by omega
  obtain ⟨x, hx⟩ : ∃ x : Int32, x = Int32.ofNat n := ⟨_, rfl⟩
  rw [← hx] at f1 f2 f3 f4 f5 f6 hl
  refine lv_iload_n S.1 S.2.1 dL_law_18 rfl (lv_at hl 0 rfl) ?_
  refine lv_bipush (v := 100) S.1 S.2.1 dL_law_19 (by decide) ?_
  refine lv_icmp_ge (tgt := 127) S.1 S.2.1 dL_law_21 (by decide) (fun c1 => absurd c1 f1) (fun _ => ?_)
  refine lv_aload_n S.1 S.2.1 dL_law_24 rfl (lv_at hl 3 rfl) ?_
  refine lv_iload_n S.1 S.2.1 dL_law_25 rfl (lv_at hl 0 rfl) ?_
  refine g_cell2 (v := xs x.toNatClampNeg) (As := [.ref b0, .int x]) (rest := []) S I hX hbl hbA (tL_cell l D cI cC cZ b0 101 xs x f2 f3) (va_cwS 2 S.2.2.2.2 gL_law_L_cell rfl rfl rfl (by decide +kernel) ⟨Nat.le_of_ble_eq_true rfl, Nat.le_of_ble_eq_true rfl⟩) hl rfl (Nat.le_of_ble_eq_true rfl) ⟨by show _ ≤ 400; omega, by show _ ≤ 14000; omega⟩ dL_law_26 (fun H locs I hg => ?_)
  replace hz : N + 0 ≤ H.size := by omega
  refine g_top (y := 136) (by rw [f4]; exact hxs) ?_
  refine lv_istore (lv' := [(4, .int 136), (3, .int x), (2, .ref h2), (1, .ref h), (0, .ref b0)]) S.1 S.2.1 dL_law_29 hl (by decide) rfl (fun ls hl => ?_)
  have k121 : ∀ (H1 : Heap) (locs1 : List Loc) (ls1 : Array Slot) (cs sl : Nat), xI D A s (w2 cI cC cZ h h2 a b d z q a2 b2 d2 z2 q2) (xT cI cC cZ) H1 locs1 → N + (1 + 40 * ((n + 1) / 33 - n / 33)) ≤ H1.size → cs ≤ (54 + (n + 1) + 40 * ((n + 1) / 33)) → sl ≤ (11052 + 6 * (n + 1) + 240 * ((n + 1) / 33)) → lv_has ls1 6 [(5, .int (-99999999)), (4, .int 136), (3, .int x), (2, .ref h2), (1, .ref h), (0, .ref b0)] → W p l e R9 s m args below meth c H1 locs1 cs sl Q (F0 m 121 ls1 []) := by
    intro H1 locs1 ls1 cs sl I hz hcs hsl hl
    refine W.widen hcs hsl ?_
    refine lv_iinc (k := 2) (lv' := [(3, .int (Int32.ofNat (n + 1))), (5, .int (-99999999)), (4, .int 136), (2, .ref h2), (1, .ref h), (0, .ref b0)]) S.1 S.2.1 dL_law_121 hl rfl f5 (by decide) rfl (fun ls hl => ?_)
    refine lv_goto (tgt := 18) S.1 S.2.1 dL_law_124 (by decide) ?_
    exact kk _ _ ls I (by omega) (lv_sub hl [0, 3, 4, 5] rfl)
  have k72 : ∀ (H1 : Heap) (locs1 : List Loc), xI D A s (w2 cI cC cZ h h2 a b d z q a2 b2 d2 z2 q2) (xT cI cC cZ) H1 locs1 → N + 0 ≤ H1.size → W p l e R9 s m args below meth c H1 locs1 (54 + n + 40 * (n / 33)) (11052 + 6 * n + 240 * (n / 33)) Q (F0 m 72 ls []) := by
    intro H locs I hz
    refine lv_aload_n S.1 S.2.1 dL_law_72 rfl (lv_at hl 3 rfl) ?_
    refine lv_iload S.1 S.2.1 dL_law_73 (lv_at hl 0 rfl) ?_
    refine g_sA (v := -99999999) (As := [.ref h, .int 136]) (rest := []) S I Z (tL_act l hlf sa D cI cC cZ h a b d z q) (va_cwS 2 S.2.2.2.2 gL_law_L_act rfl rfl rfl (by decide +kernel) ⟨Nat.le_of_ble_eq_true rfl, Nat.le_of_ble_eq_true rfl⟩) hl rfl (Nat.le_of_ble_eq_true rfl) ⟨by show _ ≤ 400; omega, by show _ ≤ 14000; omega⟩ dL_law_75 (fun H locs I hg => ?_)
    replace hz : N + 1 ≤ H.size := by omega
    refine lv_istore (lv' := [(5, .int (-99999999)), (4, .int 136), (3, .int x), (2, .ref h2), (1, .ref h), (0, .ref b0)]) S.1 S.2.1 dL_law_78 hl (by decide) rfl (fun ls hl => ?_)
    refine lv_iload S.1 S.2.1 dL_law_80 (lv_at hl 0 rfl) ?_
    refine lv_ldc (own := RL) (index := 16) (v := -99999999) S.1 S.2.1 S.2.2.2.1 (S.2.2.2.2 _ (by decide +kernel)) dL_law_82 ?_
    refine lv_icmp_eq (tgt := 98) S.1 S.2.1 dL_law_84 (by decide) (fun _ => ?_) (fun c1 => absurd rfl c1)
    refine lv_iload_n S.1 S.2.1 dL_law_98 rfl (lv_at hl 2 rfl) ?_
    refine lv_bipush (v := 33) S.1 S.2.1 dL_law_99 (by decide) ?_
    refine lv_irem S.1 S.2.1 dL_law_101 (by decide) ?_
    refine lv_bipush (v := 32) S.1 S.2.1 dL_law_102 (by decide) ?_
    refine lv_icmp_ne (tgt := 121) S.1 S.2.1 dL_law_104 (by decide) (fun c1 => ?_) (fun c1 => ?_)
    · have g6 : ¬ n % 33 = 32 := fun g => c1 (f6.mpr g)
      exact k121 H locs ls _ _ I (by omega) (by omega) (by omega) hl
    · have g6 := f6.mp c1
      refine lv_aload_n S.1 S.2.1 dL_law_107 rfl (lv_at hl 4 rfl) ?_
      refine lv_aload_n S.1 S.2.1 dL_law_108 rfl (lv_at hl 3 rfl) ?_
      refine lv_iload S.1 S.2.1 dL_law_109 (lv_at hl 1 rfl) ?_
      refine lv_iconst (v := 3) S.1 S.2.1 dL_law_111 (by decide) ?_
      refine lv_ishr S.1 S.2.1 dL_law_112 ?_
      refine g_top (y := 17) (by decide +kernel) ?_
      refine g_s2 (v := 1) (As := [.ref h, .ref h2, .int 17]) (rest := []) S I Z (tL_areAlike l hlf sa D cI cC cZ h h2 a b d z q a2 b2 d2 z2 q2) (va_cwS 3 S.2.2.2.2 gL_law_L_areAlike rfl rfl rfl (by decide +kernel) ⟨Nat.le_of_ble_eq_true rfl, Nat.le_of_ble_eq_true rfl⟩) hl rfl (Nat.le_of_ble_eq_true rfl) ⟨by show _ ≤ 400; omega, by show _ ≤ 14000; omega⟩ dL_law_113 (fun H locs I hg => ?_)
      refine lv_if_ne (tgt := 121) S.1 S.2.1 dL_law_116 (by decide) (fun _ => ?_) (fun c1 => absurd c1 (by decide))
      exact k121 H locs ls _ _ I (by omega) (by omega) (by omega) hl
  have k62 : ∀ (H1 : Heap) (locs1 : List Loc), xI D A s (w2 cI cC cZ h h2 a b d z q a2 b2 d2 z2 q2) (xT cI cC cZ) H1 locs1 → N + 0 ≤ H1.size → W p l e R9 s m args below meth c H1 locs1 (54 + n + 40 * (n / 33)) (11052 + 6 * n + 240 * (n / 33)) Q (F0 m 62 ls []) := by
    intro H locs I hz
    refine lv_aload_n S.1 S.2.1 dL_law_62 rfl (lv_at hl 3 rfl) ?_
    refine g_vA (v := 0) (As := []) (rest := []) S I (tX5_blank l D cI cC cZ h a b d z q xFp0 xG0 xF0 xG0 xF0 xG0 xF0 xG0 (0, xFp0, xF0) g_blank) rfl rfl (cwV 0 S.2.2.2.2 gL_law_X5_blank rfl rfl rfl (by decide +kernel) ⟨Nat.le_of_ble_eq_true rfl, Nat.le_of_ble_eq_true rfl⟩) hl rfl (Nat.le_of_ble_eq_true rfl) ⟨by show _ ≤ 400; omega, by show _ ≤ 14000; omega⟩ dL_law_63 (fun H locs I hg => ?_)
    replace hz : N + 0 ≤ H.size := by omega
    refine lv_pop S.1 S.2.1 dL_law_66 rfl ?_
    refine lv_aload_n S.1 S.2.1 dL_law_67 rfl (lv_at hl 2 rfl) ?_
    refine g_vB (v := 0) (As := []) (rest := []) S I (tX5_blank l D cI cC cZ h2 a2 b2 d2 z2 q2 xFp0 xG0 xF0 xG0 xF0 xG0 xF0 xG0 (0, xFp0, xF0) g_blank) rfl rfl (cwV 0 S.2.2.2.2 gL_law_X5_blank rfl rfl rfl (by decide +kernel) ⟨Nat.le_of_ble_eq_true rfl, Nat.le_of_ble_eq_true rfl⟩) hl rfl (Nat.le_of_ble_eq_true rfl) ⟨by show _ ≤ 400; omega, by show _ ≤ 14000; omega⟩ dL_law_68 (fun H locs I hg => ?_)
    replace hz : N + 0 ≤ H.size := by omega
    refine lv_pop S.1 S.2.1 dL_law_71 rfl ?_
    exact k72 H locs I hz
  refine lv_iload_n S.1 S.2.1 dL_law_31 rfl (lv_at hl 1 rfl) ?_
  refine lv_iconst (v := 5) S.1 S.2.1 dL_law_32 (by decide) ?_
  refine lv_irem S.1 S.2.1 dL_law_33 (by decide) ?_
  refine lv_if_ne (tgt := 72) S.1 S.2.1 dL_law_34 (by decide) (fun _ => k72 H locs I hz) (fun _ => ?_)
  refine lv_aload_n S.1 S.2.1 dL_law_37 rfl (lv_at hl 3 rfl) ?_
  refine g_vA (v := (-1)) (As := []) (rest := []) S I (tX5_sigma l D cI cC cZ h a b d z q xFp0 xG0 xF0 xG0 xF0 xG0 xF0 xG0 (-1) g_sigma) rfl rfl (cwV 0 S.2.2.2.2 gL_law_X5_sigma rfl rfl rfl (by decide +kernel) ⟨Nat.le_of_ble_eq_true rfl, Nat.le_of_ble_eq_true rfl⟩) hl rfl (Nat.le_of_ble_eq_true rfl) ⟨by show _ ≤ 400; omega, by show _ ≤ 14000; omega⟩ dL_law_38 (fun H locs I hg => ?_)
  replace hz : N + 0 ≤ H.size := by omega
  refine lv_if_ge (tgt := 55) S.1 S.2.1 dL_law_41 (by decide) (fun c1 => absurd c1 (by decide)) (fun _ => ?_)
  refine lv_aload_n S.1 S.2.1 dL_law_44 rfl (lv_at hl 3 rfl) ?_
  refine g_vA (v := 0) (As := []) (rest := []) S I (tX5_fault l D cI cC cZ h a b d z q xFp0 xG0 xF0 xG0 xF0 xG0 xF0 xG0 0 g_fault) rfl rfl (cwV 0 S.2.2.2.2 gL_law_X5_fault rfl rfl rfl (by decide +kernel) ⟨Nat.le_of_ble_eq_true rfl, Nat.le_of_ble_eq_true rfl⟩) hl rfl (Nat.le_of_ble_eq_true rfl) ⟨by show _ ≤ 400; omega, by show _ ≤ 14000; omega⟩ dL_law_45 (fun H locs I hg => ?_)
  replace hz : N + 0 ≤ H.size := by omega
  refine lv_iload_n S.1 S.2.1 dL_law_48 rfl (lv_at hl 1 rfl) ?_
  refine lv_bipush (v := 7) S.1 S.2.1 dL_law_49 (by decide) ?_
  refine lv_irem S.1 S.2.1 dL_law_51 (by decide) ?_
  refine lv_icmp_lt (tgt := 62) S.1 S.2.1 dL_law_52 (by decide) (fun _ => k62 H locs I hz) (fun _ => ?_)
  refine lv_iload_n S.1 S.2.1 dL_law_55 rfl (lv_at hl 1 rfl) ?_
  refine lv_bipush (v := 15) S.1 S.2.1 dL_law_56 (by decide) ?_
  refine lv_irem S.1 S.2.1 dL_law_58 (by decide) ?_
  refine lv_if_ne (tgt := 72) S.1 S.2.1 dL_law_59 (by decide) (fun _ => k72 H locs I hz) (fun _ => ?_)
  exact k62 H locs I hz
theorem law_loop {p : Program} {l : Launch} {e : Env} {s : State} {m : MethodId} {args : Array Value} {below : List Frame} {meth : Method} {c : Code} {Q : State → Prop} {D : va_G} {A : Nat → Prop} {sa : Nat → Nat} {cI cC cZ : ClassId} {h h2 : Nat} {a b d z q a2 b2 d2 z2 q2 : Nat → Nat} {b0 : Nat} {xs : Nat → Int32} (hlf : l.stackTraces = false) (S : CallFix p m c cL_law 6 s args wsL_law RL) (Z : yZ sa A s s.heap) (hX : va_X b0 101 xs s s.heap) (hbl : b0 < s.heap.size) (hbA : ¬ A b0) (hxs : ∀ n : Nat, n < 101 → xs n = 136) (kend : ∀ (H : Heap) (locs : List Loc) (ls : Array Slot), xI D A s (w2 cI cC cZ h h2 a b d z q a2 b2 d2 z2 q2) (xT cI cC cZ) H locs → s.heap.size + 220 ≤ H.size → lv_has ls 6 [(3, .int (Int32.ofNat 100)), (2, .ref h2), (1, .ref h), (0, .ref b0)] → W p l e R9 s m args below meth c H locs (54 + 100 + 40 * (100 / 33)) (11052 + 6 * 100 + 240 * (100 / 33)) Q (F0 m 18 ls [])) : ∀ (f n : Nat), f + n = 100 → ∀ (H : Heap) (locs : List Loc) (ls : Array Slot), xI D A s (w2 cI cC cZ h h2 a b d z q a2 b2 d2 z2 q2) (xT cI cC cZ) H locs → s.heap.size + (n + 40 * (n / 33)) ≤ H.size → lv_has ls 6 [(3, .int (Int32.ofNat n)), (2, .ref h2), (1, .ref h), (0, .ref b0)] → W p l e R9 s m args below meth c H locs (54 + n + 40 * (n / 33)) (11052 + 6 * n + 240 * (n / 33)) Q (F0 m 18 ls [])
  | 0, n, hf, H, locs, ls, I, hs, hl => by
    obtain rfl : n = 100 := by omega
    exact kend H locs ls I (by omega) hl
  | f + 1, n, hf, H, locs, ls, I, hs, hl => law_turn hlf S Z hX hbl hbA I n (by omega) (hxs n (by omega)) hl (fun H1 locs1 ls1 I1 hg hl1 => law_loop hlf S Z hX hbl hbA hxs kend f (n + 1) (by omega) H1 locs1 ls1 I1 (by omega) hl1)
set_option maxHeartbeats 4000000 in
set_option maxRecDepth 100000 in
/-- from the law's entry to where its loop has run: 191 cells more than at the start, at least -/
theorem law_walk {p : Program} {l : Launch} {e : Env} {s : State} {m : MethodId} {below : List Frame} {meth : Method} {c : Code} {D : va_G} {sa : Nat → Nat} {cI cC cZ : ClassId} {b0 : Nat} {xs : Nat → Int32} (hlf : l.stackTraces = false) (S : CallFix p m c cL_law 6 s #[Value.ref b0] wsL_law RL) (Z : yZ sa (fun q : Nat => s.heap.size ≤ q) s s.heap) (hK : va_K D vwCl (xT cI cC cZ) s) (hN : xN s) (hX : va_X b0 101 xs s s.heap) (hbl : b0 < s.heap.size) (hxs : ∀ n : Nat, n < 101 → xs n = 136) {Q : State → Prop} (kend : ∀ (h h2 : Nat) (a b d z q a2 b2 d2 z2 q2 : Nat → Nat), ∀ (H : Heap) (locs : List Loc) (ls : Array Slot), xI D (fun q : Nat => s.heap.size ≤ q) s (w2 cI cC cZ h h2 a b d z q a2 b2 d2 z2 q2) (xT cI cC cZ) H locs → s.heap.size + 220 ≤ H.size → lv_has ls 6 [(3, .int (Int32.ofNat 100)), (2, .ref h2), (1, .ref h), (0, .ref b0)] → W p l e R9 s m #[Value.ref b0] below meth c H locs (54 + 100 + 40 * (100 / 33)) (11052 + 6 * 100 + 240 * (100 / 33)) Q (F0 m 18 ls [])) : W p l e R9 s m #[Value.ref b0] below meth c s.heap [] 0 0 Q (entryFrame m ([Value.ref b0] : List Value).toArray 6) := by
  have I : xI D (fun q : Nat => s.heap.size ≤ q) s [] (xT cI cC cZ) s.heap [] := ⟨fun k q h => by simp at h, ⟨fun i j p q h => by simp at h, fun k q h => by simp at h⟩, hK, va_S.rf, fun _ h => h, hN⟩
  have hl := lv_entry ([.ref b0]) (n := 6) (Nat.le_of_ble_eq_true rfl)
  rw [lg_entry_eq]
  generalize (lg_sl ([.ref b0]) ++ List.replicate (6 - (lg_sl ([.ref b0])).length) Slot.unset).toArray = ls at hl ⊢
  replace hl : lv_has ls 6 [(0, .ref b0)] := hl
  have kX5 : ∀ w ∈ u_ws RX5 TX5 3, w ∈ wsL_law := inlX5
  refine x_newo (C := RX5) (T := TX5) (N := 3) (ci := 4) (fs := [.null, .null, .null]) S kX5 tyX5 tyX5_ok (by decide +kernel) (by decide +kernel) (by decide +kernel) I rfl (fun j hj => by rcases (show j = 0 ∨ j = 1 ∨ j = 2 by omega) with rfl | rfl | rfl <;> rfl) (Nat.le_of_ble_eq_true rfl) (Nat.le_of_ble_eq_true rfl) dL_law_0 (fun h H I => ?_)
  refine W.widen (k := 1) (n := 3) (Nat.le_of_ble_eq_true rfl) (Nat.le_of_ble_eq_true rfl) ?_
  replace I : xI D (fun q : Nat => s.heap.size ≤ q) s [(h, .inr (4, [.null, .null, .null]))] (xT cI cC cZ) H _ := I
  refine lv_dup S.1 S.2.1 dL_law_3 rfl ?_
  refine k_cI S I [0, 1, 2] rfl (tX5_init l D cI cC cZ h) gL_law_X5_init rfl rfl rfl (by decide +kernel) (by decide +kernel) (by decide +kernel) rfl (by decide +kernel) ⟨Nat.le_of_ble_eq_true rfl, Nat.le_of_ble_eq_true rfl⟩ [0] [] rfl rfl rfl rfl (by decide) hl (Nat.le_of_ble_eq_true rfl) ⟨Nat.le_of_ble_eq_true rfl, Nat.le_of_ble_eq_true rfl⟩ dL_law_4 (fun H locs w hB I => ?_)
  obtain ⟨a, b, d, z, q, rfl⟩ := hB
  refine W.widen (k := 27) (n := 5526) (Nat.le_of_ble_eq_true rfl) (Nat.le_of_ble_eq_true rfl) ?_
  replace I : xI D (fun q : Nat => s.heap.size ≤ q) s (w5 cI cC cZ h a b d z q) (xT cI cC cZ) H _ := I
  refine lv_astore_n (lv' := [(1, .ref h), (0, .ref b0)]) S.1 S.2.1 dL_law_7 rfl hl (by decide) rfl (fun ls hl => ?_)
  refine x_newo (C := RX5) (T := TX5) (N := 3) (ci := 4) (fs := [.null, .null, .null]) S kX5 tyX5 tyX5_ok (by decide +kernel) (by decide +kernel) (by decide +kernel) I rfl (fun j hj => by rcases (show j = 0 ∨ j = 1 ∨ j = 2 by omega) with rfl | rfl | rfl <;> rfl) (Nat.le_of_ble_eq_true rfl) (Nat.le_of_ble_eq_true rfl) dL_law_8 (fun h2 H I => ?_)
  refine W.widen (k := 28) (n := 5529) (Nat.le_of_ble_eq_true rfl) (Nat.le_of_ble_eq_true rfl) ?_
  refine lv_dup S.1 S.2.1 dL_law_11 rfl ?_
  refine k_cI S I [0, 1, 2] rfl (tX5_init l D cI cC cZ h2) gL_law_X5_init rfl rfl rfl (by decide +kernel) (by decide +kernel) (by decide +kernel) rfl (by decide +kernel) ⟨Nat.le_of_ble_eq_true rfl, Nat.le_of_ble_eq_true rfl⟩ [27] [0, 1, 2, 3, 4, 5, 6, 7, 8, 9, 10, 11, 12, 13, 14, 15, 16, 17, 18, 19, 20, 21, 22, 23, 24, 25, 26] rfl rfl rfl rfl (by decide) hl (Nat.le_of_ble_eq_true rfl) ⟨Nat.le_of_ble_eq_true rfl, Nat.le_of_ble_eq_true rfl⟩ dL_law_12 (fun H locs w hB I => ?_)
  obtain ⟨a2, b2, d2, z2, q2, rfl⟩ := hB
  refine W.widen (k := 54 + 0 + 40 * (0 / 33)) (n := 11052 + 6 * 0 + 240 * (0 / 33)) (Nat.le_of_ble_eq_true rfl) (Nat.le_of_ble_eq_true rfl) ?_
  replace I : xI D (fun q : Nat => s.heap.size ≤ q) s (w2 cI cC cZ h h2 a b d z q a2 b2 d2 z2 q2) (xT cI cC cZ) H _ := I
  refine lv_astore_n (lv' := [(2, .ref h2), (1, .ref h), (0, .ref b0)]) S.1 S.2.1 dL_law_15 rfl hl (by decide) rfl (fun ls hl => ?_)
  refine lv_iconst (v := Int32.ofNat 0) S.1 S.2.1 dL_law_16 (by decide) ?_
  refine lv_istore_n (lv' := [(3, .int (Int32.ofNat 0)), (2, .ref h2), (1, .ref h), (0, .ref b0)]) S.1 S.2.1 dL_law_17 rfl hl (by decide) rfl (fun ls hl => ?_)
  exact law_loop hlf S Z hX hbl (Nat.not_le.mpr hbl) hxs (kend h h2 a b d z q a2 b2 d2 z2 q2) 100 0 rfl H _ ls I I.2.2.2.1.1 hl
end GLAW
