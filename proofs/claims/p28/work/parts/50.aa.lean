section GAA
/-! areAlike of two courts as they are made -/
def rmL_areAlike : Room := { frames := 11, cells := 40, slots := 240, locals := 250 }
set_option maxHeartbeats 4000000 in
set_option maxRecDepth 100000 in
theorem aa_turn {p : Program} {l : Launch} {e : Env} {s : State} {m : MethodId} {args : Array Value} {below : List Frame} {meth : Method} {c : Code} {H : Heap} {locs : List Loc} {cells slots : Nat} {Q : State → Prop} {D : va_G} {A : Nat → Prop} {sa : Nat → Nat} {ls : Array Slot} {cI cC cZ : ClassId} {h h2 : Nat} {a b d z q a2 b2 d2 z2 q2 : Nat → Nat} (hlf : l.stackTraces = false) (S : CallFix p m c cL_areAlike 5 s args wsL_areAlike RL) (I : xI D A s (w2 cI cC cZ h h2 a b d z q a2 b2 d2 z2 q2) (xT cI cC cZ) H locs) (Z : yZ sa A s s.heap) (j k x : Int32) (hk : j + 1 = k) (hx : (17 : Int32) >>> (j &&& 31) = x) (hx0 : ¬ x_ush (g_lo x 16) 0 = 0)
    (hl : lv_has ls 5 [(4, .int j), (3, .int 1), (0, .ref h), (1, .ref h2), (2, .int 17)])
    (hc : cells + 8 ≤ 40) (hs : slots + 48 ≤ 240)
    (kk : ∀ (H1 : Heap) (locs1 : List Loc) (ls1 : Array Slot), xI D A s (w2 cI cC cZ h h2 a b d z q a2 b2 d2 z2 q2) (xT cI cC cZ) H1 locs1 → H.size + 8 ≤ H1.size → lv_has ls1 5 [(4, .int k), (3, .int 1), (0, .ref h), (1, .ref h2), (2, .int 17)] → W p l e (headSpec wsL_areAlike rmL_areAlike).room s m args below meth c H1 locs1 (cells + 8) (slots + 48) Q (F0 m 53 ls1 [])) :
    W p l e (headSpec wsL_areAlike rmL_areAlike).room s m args below meth c H locs cells slots Q (F0 m 63 ls []) := by
  obtain ⟨N, hN⟩ : ∃ N : Nat, N = H.size := ⟨_, rfl⟩
  have hz : N + 0 ≤ H.size := by omega
  refine lv_aload_n S.1 S.2.1 dL_areAlike_63 rfl (lv_at hl 2 rfl) ?_
  refine lv_iload S.1 S.2.1 dL_areAlike_64 (lv_at hl 0 rfl) ?_
  refine lv_iload_n S.1 S.2.1 dL_areAlike_66 rfl (lv_at hl 4 rfl) ?_
  refine lv_iconst (v := 4) S.1 S.2.1 dL_areAlike_67 (by decide) ?_
  refine g_low2 (v := g_lo 17 4) (As := [.int 17, .int 4]) (rest := [.int j, .ref h]) S I Z (tL_low l sa D cI cC cZ 17 4 (by decide)) (va_cwS 2 S.2.2.2.2 gL_areAlike_L_low rfl rfl rfl (by decide +kernel) ⟨Nat.le_of_ble_eq_true rfl, Nat.le_of_ble_eq_true rfl⟩) hl rfl (Nat.le_of_ble_eq_true rfl) ⟨by show _ ≤ 40; omega, by show _ ≤ 240; omega⟩ dL_areAlike_68 (fun H locs I hg => ?_)
  replace hz : N + 0 ≤ H.size := by omega
  refine g_hA (v := -99999999) (As := [.ref h, .int j, .int (g_lo 17 4)]) (rest := []) S I Z (tL_ofPrinciple l hlf sa D cI cC cZ h a b d z q j (g_lo 17 4)) (vx_cwSW 3 S.2.2.2.2 gL_areAlike_L_ofPrinciple rfl rfl rfl (by decide +kernel) ⟨Nat.le_of_ble_eq_true rfl, Nat.le_of_ble_eq_true rfl⟩) hl rfl (Nat.le_of_ble_eq_true rfl) ⟨by show _ ≤ 40; omega, by show _ ≤ 240; omega⟩ dL_areAlike_71 (fun H locs I hg => ?_)
  replace hz : N + 1 ≤ H.size := by omega
  refine lv_aload_n S.1 S.2.1 dL_areAlike_74 rfl (lv_at hl 3 rfl) ?_
  refine lv_iload S.1 S.2.1 dL_areAlike_75 (lv_at hl 0 rfl) ?_
  refine lv_iload_n S.1 S.2.1 dL_areAlike_77 rfl (lv_at hl 4 rfl) ?_
  refine lv_iconst (v := 4) S.1 S.2.1 dL_areAlike_78 (by decide) ?_
  refine g_low2 (v := g_lo 17 4) (As := [.int 17, .int 4]) (rest := [.int j, .ref h2, .int (-99999999)]) S I Z (tL_low l sa D cI cC cZ 17 4 (by decide)) (va_cwS 2 S.2.2.2.2 gL_areAlike_L_low rfl rfl rfl (by decide +kernel) ⟨Nat.le_of_ble_eq_true rfl, Nat.le_of_ble_eq_true rfl⟩) hl rfl (Nat.le_of_ble_eq_true rfl) ⟨by show _ ≤ 40; omega, by show _ ≤ 240; omega⟩ dL_areAlike_79 (fun H locs I hg => ?_)
  replace hz : N + 1 ≤ H.size := by omega
  refine g_hB (v := -99999999) (As := [.ref h2, .int j, .int (g_lo 17 4)]) (rest := [.int (-99999999)]) S I Z (tL_ofPrinciple l hlf sa D cI cC cZ h2 a2 b2 d2 z2 q2 j (g_lo 17 4)) (vx_cwSW 3 S.2.2.2.2 gL_areAlike_L_ofPrinciple rfl rfl rfl (by decide +kernel) ⟨Nat.le_of_ble_eq_true rfl, Nat.le_of_ble_eq_true rfl⟩) hl rfl (Nat.le_of_ble_eq_true rfl) ⟨by show _ ≤ 40; omega, by show _ ≤ 240; omega⟩ dL_areAlike_82 (fun H locs I hg => ?_)
  replace hz : N + 2 ≤ H.size := by omega
  refine lv_icmp_ne (tgt := 171) S.1 S.2.1 dL_areAlike_85 (by decide) (fun c1 => absurd c1 (by decide)) (fun _ => ?_)
  refine lv_aload_n S.1 S.2.1 dL_areAlike_88 rfl (lv_at hl 2 rfl) ?_
  refine lv_iload S.1 S.2.1 dL_areAlike_89 (lv_at hl 0 rfl) ?_
  refine lv_iload_n S.1 S.2.1 dL_areAlike_91 rfl (lv_at hl 4 rfl) ?_
  refine lv_iconst (v := 3) S.1 S.2.1 dL_areAlike_92 (by decide) ?_
  refine g_low2 (v := g_lo 17 3) (As := [.int 17, .int 3]) (rest := [.int j, .ref h]) S I Z (tL_low l sa D cI cC cZ 17 3 (by decide)) (va_cwS 2 S.2.2.2.2 gL_areAlike_L_low rfl rfl rfl (by decide +kernel) ⟨Nat.le_of_ble_eq_true rfl, Nat.le_of_ble_eq_true rfl⟩) hl rfl (Nat.le_of_ble_eq_true rfl) ⟨by show _ ≤ 40; omega, by show _ ≤ 240; omega⟩ dL_areAlike_93 (fun H locs I hg => ?_)
  replace hz : N + 2 ≤ H.size := by omega
  refine g_hA (v := -99999999) (As := [.ref h, .int j, .int (g_lo 17 3)]) (rest := []) S I Z (tL_ofProblem l hlf sa D cI cC cZ h a b d z q j (g_lo 17 3)) (vx_cwSW 3 S.2.2.2.2 gL_areAlike_L_ofProblem rfl rfl rfl (by decide +kernel) ⟨Nat.le_of_ble_eq_true rfl, Nat.le_of_ble_eq_true rfl⟩) hl rfl (Nat.le_of_ble_eq_true rfl) ⟨by show _ ≤ 40; omega, by show _ ≤ 240; omega⟩ dL_areAlike_96 (fun H locs I hg => ?_)
  replace hz : N + 3 ≤ H.size := by omega
  refine lv_aload_n S.1 S.2.1 dL_areAlike_99 rfl (lv_at hl 3 rfl) ?_
  refine lv_iload S.1 S.2.1 dL_areAlike_100 (lv_at hl 0 rfl) ?_
  refine lv_iload_n S.1 S.2.1 dL_areAlike_102 rfl (lv_at hl 4 rfl) ?_
  refine lv_iconst (v := 3) S.1 S.2.1 dL_areAlike_103 (by decide) ?_
  refine g_low2 (v := g_lo 17 3) (As := [.int 17, .int 3]) (rest := [.int j, .ref h2, .int (-99999999)]) S I Z (tL_low l sa D cI cC cZ 17 3 (by decide)) (va_cwS 2 S.2.2.2.2 gL_areAlike_L_low rfl rfl rfl (by decide +kernel) ⟨Nat.le_of_ble_eq_true rfl, Nat.le_of_ble_eq_true rfl⟩) hl rfl (Nat.le_of_ble_eq_true rfl) ⟨by show _ ≤ 40; omega, by show _ ≤ 240; omega⟩ dL_areAlike_104 (fun H locs I hg => ?_)
  replace hz : N + 3 ≤ H.size := by omega
  refine g_hB (v := -99999999) (As := [.ref h2, .int j, .int (g_lo 17 3)]) (rest := [.int (-99999999)]) S I Z (tL_ofProblem l hlf sa D cI cC cZ h2 a2 b2 d2 z2 q2 j (g_lo 17 3)) (vx_cwSW 3 S.2.2.2.2 gL_areAlike_L_ofProblem rfl rfl rfl (by decide +kernel) ⟨Nat.le_of_ble_eq_true rfl, Nat.le_of_ble_eq_true rfl⟩) hl rfl (Nat.le_of_ble_eq_true rfl) ⟨by show _ ≤ 40; omega, by show _ ≤ 240; omega⟩ dL_areAlike_107 (fun H locs I hg => ?_)
  replace hz : N + 4 ≤ H.size := by omega
  refine lv_icmp_ne (tgt := 171) S.1 S.2.1 dL_areAlike_110 (by decide) (fun c1 => absurd c1 (by decide)) (fun _ => ?_)
  refine lv_aload_n S.1 S.2.1 dL_areAlike_113 rfl (lv_at hl 2 rfl) ?_
  refine lv_iload_n S.1 S.2.1 dL_areAlike_114 rfl (lv_at hl 4 rfl) ?_
  refine lv_iload S.1 S.2.1 dL_areAlike_115 (lv_at hl 0 rfl) ?_
  refine lv_ishr S.1 S.2.1 dL_areAlike_117 ?_
  refine g_top (y := x) hx ?_
  refine lv_bipush (v := 16) S.1 S.2.1 dL_areAlike_118 (by decide) ?_
  refine g_low2 (v := g_lo x 16) (As := [.int x, .int 16]) (rest := [.ref h]) S I Z (tL_low l sa D cI cC cZ x 16 (by decide)) (va_cwS 2 S.2.2.2.2 gL_areAlike_L_low rfl rfl rfl (by decide +kernel) ⟨Nat.le_of_ble_eq_true rfl, Nat.le_of_ble_eq_true rfl⟩) hl rfl (Nat.le_of_ble_eq_true rfl) ⟨by show _ ≤ 40; omega, by show _ ≤ 240; omega⟩ dL_areAlike_120 (fun H locs I hg => ?_)
  replace hz : N + 4 ≤ H.size := by omega
  refine g_hA (v := -99999999) (As := [.ref h, .int (g_lo x 16)]) (rest := []) S I Z (tL_proves l hlf sa D cI cC cZ h a b d z q (g_lo x 16) hx0) (vx_cwSW 2 S.2.2.2.2 gL_areAlike_L_proves rfl rfl rfl (by decide +kernel) ⟨Nat.le_of_ble_eq_true rfl, Nat.le_of_ble_eq_true rfl⟩) hl rfl (Nat.le_of_ble_eq_true rfl) ⟨by show _ ≤ 40; omega, by show _ ≤ 240; omega⟩ dL_areAlike_123 (fun H locs I hg => ?_)
  replace hz : N + 5 ≤ H.size := by omega
  refine lv_aload_n S.1 S.2.1 dL_areAlike_126 rfl (lv_at hl 3 rfl) ?_
  refine lv_iload_n S.1 S.2.1 dL_areAlike_127 rfl (lv_at hl 4 rfl) ?_
  refine lv_iload S.1 S.2.1 dL_areAlike_128 (lv_at hl 0 rfl) ?_
  refine lv_ishr S.1 S.2.1 dL_areAlike_130 ?_
  refine g_top (y := x) hx ?_
  refine lv_bipush (v := 16) S.1 S.2.1 dL_areAlike_131 (by decide) ?_
  refine g_low2 (v := g_lo x 16) (As := [.int x, .int 16]) (rest := [.ref h2, .int (-99999999)]) S I Z (tL_low l sa D cI cC cZ x 16 (by decide)) (va_cwS 2 S.2.2.2.2 gL_areAlike_L_low rfl rfl rfl (by decide +kernel) ⟨Nat.le_of_ble_eq_true rfl, Nat.le_of_ble_eq_true rfl⟩) hl rfl (Nat.le_of_ble_eq_true rfl) ⟨by show _ ≤ 40; omega, by show _ ≤ 240; omega⟩ dL_areAlike_133 (fun H locs I hg => ?_)
  replace hz : N + 5 ≤ H.size := by omega
  refine g_hB (v := -99999999) (As := [.ref h2, .int (g_lo x 16)]) (rest := [.int (-99999999)]) S I Z (tL_proves l hlf sa D cI cC cZ h2 a2 b2 d2 z2 q2 (g_lo x 16) hx0) (vx_cwSW 2 S.2.2.2.2 gL_areAlike_L_proves rfl rfl rfl (by decide +kernel) ⟨Nat.le_of_ble_eq_true rfl, Nat.le_of_ble_eq_true rfl⟩) hl rfl (Nat.le_of_ble_eq_true rfl) ⟨by show _ ≤ 40; omega, by show _ ≤ 240; omega⟩ dL_areAlike_136 (fun H locs I hg => ?_)
  replace hz : N + 6 ≤ H.size := by omega
  refine lv_icmp_ne (tgt := 171) S.1 S.2.1 dL_areAlike_139 (by decide) (fun c1 => absurd c1 (by decide)) (fun _ => ?_)
  refine lv_aload_n S.1 S.2.1 dL_areAlike_142 rfl (lv_at hl 2 rfl) ?_
  refine lv_iload S.1 S.2.1 dL_areAlike_143 (lv_at hl 0 rfl) ?_
  refine lv_iload_n S.1 S.2.1 dL_areAlike_145 rfl (lv_at hl 4 rfl) ?_
  refine lv_iconst (v := 5) S.1 S.2.1 dL_areAlike_146 (by decide) ?_
  refine g_low2 (v := g_lo 17 5) (As := [.int 17, .int 5]) (rest := [.int j, .ref h]) S I Z (tL_low l sa D cI cC cZ 17 5 (by decide)) (va_cwS 2 S.2.2.2.2 gL_areAlike_L_low rfl rfl rfl (by decide +kernel) ⟨Nat.le_of_ble_eq_true rfl, Nat.le_of_ble_eq_true rfl⟩) hl rfl (Nat.le_of_ble_eq_true rfl) ⟨by show _ ≤ 40; omega, by show _ ≤ 240; omega⟩ dL_areAlike_147 (fun H locs I hg => ?_)
  replace hz : N + 6 ≤ H.size := by omega
  refine g_hA (v := -99999999) (As := [.ref h, .int j, .int (g_lo 17 5)]) (rest := []) S I Z (tL_reduces l hlf sa D cI cC cZ h a b d z q j (g_lo 17 5)) (vx_cwSW 3 S.2.2.2.2 gL_areAlike_L_reduces rfl rfl rfl (by decide +kernel) ⟨Nat.le_of_ble_eq_true rfl, Nat.le_of_ble_eq_true rfl⟩) hl rfl (Nat.le_of_ble_eq_true rfl) ⟨by show _ ≤ 40; omega, by show _ ≤ 240; omega⟩ dL_areAlike_150 (fun H locs I hg => ?_)
  replace hz : N + 7 ≤ H.size := by omega
  refine lv_aload_n S.1 S.2.1 dL_areAlike_153 rfl (lv_at hl 3 rfl) ?_
  refine lv_iload S.1 S.2.1 dL_areAlike_154 (lv_at hl 0 rfl) ?_
  refine lv_iload_n S.1 S.2.1 dL_areAlike_156 rfl (lv_at hl 4 rfl) ?_
  refine lv_iconst (v := 5) S.1 S.2.1 dL_areAlike_157 (by decide) ?_
  refine g_low2 (v := g_lo 17 5) (As := [.int 17, .int 5]) (rest := [.int j, .ref h2, .int (-99999999)]) S I Z (tL_low l sa D cI cC cZ 17 5 (by decide)) (va_cwS 2 S.2.2.2.2 gL_areAlike_L_low rfl rfl rfl (by decide +kernel) ⟨Nat.le_of_ble_eq_true rfl, Nat.le_of_ble_eq_true rfl⟩) hl rfl (Nat.le_of_ble_eq_true rfl) ⟨by show _ ≤ 40; omega, by show _ ≤ 240; omega⟩ dL_areAlike_158 (fun H locs I hg => ?_)
  replace hz : N + 7 ≤ H.size := by omega
  refine g_hB (v := -99999999) (As := [.ref h2, .int j, .int (g_lo 17 5)]) (rest := [.int (-99999999)]) S I Z (tL_reduces l hlf sa D cI cC cZ h2 a2 b2 d2 z2 q2 j (g_lo 17 5)) (vx_cwSW 3 S.2.2.2.2 gL_areAlike_L_reduces rfl rfl rfl (by decide +kernel) ⟨Nat.le_of_ble_eq_true rfl, Nat.le_of_ble_eq_true rfl⟩) hl rfl (Nat.le_of_ble_eq_true rfl) ⟨by show _ ≤ 40; omega, by show _ ≤ 240; omega⟩ dL_areAlike_161 (fun H locs I hg => ?_)
  replace hz : N + 8 ≤ H.size := by omega
  refine lv_icmp_ne (tgt := 171) S.1 S.2.1 dL_areAlike_164 (by decide) (fun c1 => absurd c1 (by decide)) (fun _ => ?_)
  refine lv_iconst (v := 1) S.1 S.2.1 dL_areAlike_167 (by decide) ?_
  refine lv_goto (tgt := 172) S.1 S.2.1 dL_areAlike_168 (by decide) ?_
  refine lv_istore_n (lv' := [(3, .int 1), (4, .int j), (0, .ref h), (1, .ref h2), (2, .int 17)]) S.1 S.2.1 dL_areAlike_172 rfl hl (by decide) rfl (fun ls hl => ?_)
  refine lv_iinc (k := 1) (lv' := [(4, .int k), (3, .int 1), (0, .ref h), (1, .ref h2), (2, .int 17)]) S.1 S.2.1 dL_areAlike_173 hl rfl hk (by decide) rfl (fun ls hl => ?_)
  refine lv_goto (tgt := 53) S.1 S.2.1 dL_areAlike_176 (by decide) ?_
  refine W.widen (k := cells + 8) (n := slots + 48) (by omega) (by omega) ?_
  exact kk H locs ls I (by omega) hl
set_option maxHeartbeats 4000000 in
set_option maxRecDepth 100000 in
theorem tL_areAlike (l : Launch) (hlf : l.stackTraces = false) (sa : Nat → Nat) (D : va_G) (cI cC cZ : ClassId) (h h2 : Nat) (a b d z q a2 b2 d2 z2 q2 : Nat → Nat) : gC l yL_areAlike wsL_areAlike rmL_areAlike D sa [.ref h, .ref h2, .int 17] (w2 cI cC cZ h h2 a b d z q a2 b2 d2 z2 q2) (xT cI cC cZ) 1 40 40 240 := by
  refine g_of (cc := cL_areAlike) (maxL := 5) (ret := some .boolean) (by decide) rfl (Nat.le_of_ble_eq_true rfl) ?_
  intro p e s m args below meth c A Q ls S I Z E hl
  replace hl : lv_has ls 5 [(0, .ref h), (1, .ref h2), (2, .int 17)] := hl
  have hz : s.heap.size + 0 ≤ s.heap.size := Nat.le_refl _
  refine lv_aload_n S.1 S.2.1 dL_areAlike_0 rfl (lv_at hl 0 rfl) ?_
  refine g_vA (v := 0) (As := []) (rest := []) S I (tX5_fault l D cI cC cZ h a b d z q xFp0 xG0 xF0 xG0 xF0 xG0 xF0 xG0 0 g_fault) rfl rfl (cwV 0 S.2.2.2.2 gL_areAlike_X5_fault rfl rfl rfl (by decide +kernel) ⟨Nat.le_of_ble_eq_true rfl, Nat.le_of_ble_eq_true rfl⟩) hl rfl (Nat.le_of_ble_eq_true rfl) ⟨Nat.le_of_ble_eq_true rfl, Nat.le_of_ble_eq_true rfl⟩ dL_areAlike_1 (fun H locs I hg => ?_)
  replace hz : s.heap.size + 0 ≤ H.size := by omega
  refine lv_aload_n S.1 S.2.1 dL_areAlike_4 rfl (lv_at hl 1 rfl) ?_
  refine g_vB (v := 0) (As := []) (rest := [.int 0]) S I (tX5_fault l D cI cC cZ h2 a2 b2 d2 z2 q2 xFp0 xG0 xF0 xG0 xF0 xG0 xF0 xG0 0 g_fault) rfl rfl (cwV 0 S.2.2.2.2 gL_areAlike_X5_fault rfl rfl rfl (by decide +kernel) ⟨Nat.le_of_ble_eq_true rfl, Nat.le_of_ble_eq_true rfl⟩) hl rfl (Nat.le_of_ble_eq_true rfl) ⟨Nat.le_of_ble_eq_true rfl, Nat.le_of_ble_eq_true rfl⟩ dL_areAlike_5 (fun H locs I hg => ?_)
  replace hz : s.heap.size + 0 ≤ H.size := by omega
  refine lv_icmp_ne (tgt := 48) S.1 S.2.1 dL_areAlike_8 (by decide) (fun c1 => absurd c1 (by decide)) (fun _ => ?_)
  refine lv_aload_n S.1 S.2.1 dL_areAlike_11 rfl (lv_at hl 0 rfl) ?_
  refine g_vA (v := (-1)) (As := []) (rest := []) S I (tX5_sigma l D cI cC cZ h a b d z q xFp0 xG0 xF0 xG0 xF0 xG0 xF0 xG0 (-1) g_sigma) rfl rfl (cwV 0 S.2.2.2.2 gL_areAlike_X5_sigma rfl rfl rfl (by decide +kernel) ⟨Nat.le_of_ble_eq_true rfl, Nat.le_of_ble_eq_true rfl⟩) hl rfl (Nat.le_of_ble_eq_true rfl) ⟨Nat.le_of_ble_eq_true rfl, Nat.le_of_ble_eq_true rfl⟩ dL_areAlike_12 (fun H locs I hg => ?_)
  replace hz : s.heap.size + 0 ≤ H.size := by omega
  refine lv_aload_n S.1 S.2.1 dL_areAlike_15 rfl (lv_at hl 1 rfl) ?_
  refine g_vB (v := (-1)) (As := []) (rest := [.int (-1)]) S I (tX5_sigma l D cI cC cZ h2 a2 b2 d2 z2 q2 xFp0 xG0 xF0 xG0 xF0 xG0 xF0 xG0 (-1) g_sigma) rfl rfl (cwV 0 S.2.2.2.2 gL_areAlike_X5_sigma rfl rfl rfl (by decide +kernel) ⟨Nat.le_of_ble_eq_true rfl, Nat.le_of_ble_eq_true rfl⟩) hl rfl (Nat.le_of_ble_eq_true rfl) ⟨Nat.le_of_ble_eq_true rfl, Nat.le_of_ble_eq_true rfl⟩ dL_areAlike_16 (fun H locs I hg => ?_)
  replace hz : s.heap.size + 0 ≤ H.size := by omega
  refine lv_icmp_ne (tgt := 48) S.1 S.2.1 dL_areAlike_19 (by decide) (fun c1 => absurd c1 (by decide)) (fun _ => ?_)
  refine lv_aload_n S.1 S.2.1 dL_areAlike_22 rfl (lv_at hl 0 rfl) ?_
  refine g_vA (v := (-1)) (As := []) (rest := []) S I (tX5_free l D cI cC cZ h a b d z q xFp0 xG0 xF0 xG0 xF0 xG0 xF0 xG0 (-1) g_free) rfl rfl (cwV 0 S.2.2.2.2 gL_areAlike_X5_free rfl rfl rfl (by decide +kernel) ⟨Nat.le_of_ble_eq_true rfl, Nat.le_of_ble_eq_true rfl⟩) hl rfl (Nat.le_of_ble_eq_true rfl) ⟨Nat.le_of_ble_eq_true rfl, Nat.le_of_ble_eq_true rfl⟩ dL_areAlike_23 (fun H locs I hg => ?_)
  replace hz : s.heap.size + 0 ≤ H.size := by omega
  refine lv_aload_n S.1 S.2.1 dL_areAlike_26 rfl (lv_at hl 1 rfl) ?_
  refine g_vB (v := (-1)) (As := []) (rest := [.int (-1)]) S I (tX5_free l D cI cC cZ h2 a2 b2 d2 z2 q2 xFp0 xG0 xF0 xG0 xF0 xG0 xF0 xG0 (-1) g_free) rfl rfl (cwV 0 S.2.2.2.2 gL_areAlike_X5_free rfl rfl rfl (by decide +kernel) ⟨Nat.le_of_ble_eq_true rfl, Nat.le_of_ble_eq_true rfl⟩) hl rfl (Nat.le_of_ble_eq_true rfl) ⟨Nat.le_of_ble_eq_true rfl, Nat.le_of_ble_eq_true rfl⟩ dL_areAlike_27 (fun H locs I hg => ?_)
  replace hz : s.heap.size + 0 ≤ H.size := by omega
  refine lv_icmp_ne (tgt := 48) S.1 S.2.1 dL_areAlike_30 (by decide) (fun c1 => absurd c1 (by decide)) (fun _ => ?_)
  refine lv_aload_n S.1 S.2.1 dL_areAlike_33 rfl (lv_at hl 0 rfl) ?_
  refine g_vA (v := 0) (As := []) (rest := []) S I (tX5_open l D cI cC cZ h a b d z q xFp0 xG0 xF0 xG0 xF0 xG0 xF0 xG0 0 g_open) rfl rfl (cwV 0 S.2.2.2.2 gL_areAlike_X5_open rfl rfl rfl (by decide +kernel) ⟨Nat.le_of_ble_eq_true rfl, Nat.le_of_ble_eq_true rfl⟩) hl rfl (Nat.le_of_ble_eq_true rfl) ⟨Nat.le_of_ble_eq_true rfl, Nat.le_of_ble_eq_true rfl⟩ dL_areAlike_34 (fun H locs I hg => ?_)
  replace hz : s.heap.size + 0 ≤ H.size := by omega
  refine lv_aload_n S.1 S.2.1 dL_areAlike_37 rfl (lv_at hl 1 rfl) ?_
  refine g_vB (v := 0) (As := []) (rest := [.int 0]) S I (tX5_open l D cI cC cZ h2 a2 b2 d2 z2 q2 xFp0 xG0 xF0 xG0 xF0 xG0 xF0 xG0 0 g_open) rfl rfl (cwV 0 S.2.2.2.2 gL_areAlike_X5_open rfl rfl rfl (by decide +kernel) ⟨Nat.le_of_ble_eq_true rfl, Nat.le_of_ble_eq_true rfl⟩) hl rfl (Nat.le_of_ble_eq_true rfl) ⟨Nat.le_of_ble_eq_true rfl, Nat.le_of_ble_eq_true rfl⟩ dL_areAlike_38 (fun H locs I hg => ?_)
  replace hz : s.heap.size + 0 ≤ H.size := by omega
  refine lv_icmp_ne (tgt := 48) S.1 S.2.1 dL_areAlike_41 (by decide) (fun c1 => absurd c1 (by decide)) (fun _ => ?_)
  refine lv_iconst (v := 1) S.1 S.2.1 dL_areAlike_44 (by decide) ?_
  refine lv_goto (tgt := 49) S.1 S.2.1 dL_areAlike_45 (by decide) ?_
  refine lv_istore_n (lv' := [(3, .int 1), (0, .ref h), (1, .ref h2), (2, .int 17)]) S.1 S.2.1 dL_areAlike_49 rfl hl (by decide) rfl (fun ls hl => ?_)
  refine lv_iconst (v := 0) S.1 S.2.1 dL_areAlike_50 (by decide) ?_
  refine lv_istore (lv' := [(4, .int 0), (3, .int 1), (0, .ref h), (1, .ref h2), (2, .int 17)]) S.1 S.2.1 dL_areAlike_51 hl (by decide) rfl (fun ls hl => ?_)
  refine lv_iload S.1 S.2.1 dL_areAlike_53 (lv_at hl 0 rfl) ?_
  refine lv_iconst (v := 5) S.1 S.2.1 dL_areAlike_55 (by decide) ?_
  refine lv_icmp_ge (tgt := 179) S.1 S.2.1 dL_areAlike_56 (by decide) (fun c1 => absurd c1 (by decide)) (fun _ => ?_)
  refine lv_iload_n S.1 S.2.1 dL_areAlike_59 rfl (lv_at hl 1 rfl) ?_
  refine lv_if_eq (tgt := 179) S.1 S.2.1 dL_areAlike_60 (by decide) (fun c1 => absurd c1 (by decide)) (fun _ => ?_)
  refine aa_turn hlf S I Z 0 1 17 (by decide +kernel) (by decide +kernel) (by decide +kernel) hl (Nat.le_of_ble_eq_true rfl) (Nat.le_of_ble_eq_true rfl) (fun H locs ls I hg hl => ?_)
  replace hz : s.heap.size + 8 ≤ H.size := by omega
  refine lv_iload S.1 S.2.1 dL_areAlike_53 (lv_at hl 0 rfl) ?_
  refine lv_iconst (v := 5) S.1 S.2.1 dL_areAlike_55 (by decide) ?_
  refine lv_icmp_ge (tgt := 179) S.1 S.2.1 dL_areAlike_56 (by decide) (fun c1 => absurd c1 (by decide)) (fun _ => ?_)
  refine lv_iload_n S.1 S.2.1 dL_areAlike_59 rfl (lv_at hl 1 rfl) ?_
  refine lv_if_eq (tgt := 179) S.1 S.2.1 dL_areAlike_60 (by decide) (fun c1 => absurd c1 (by decide)) (fun _ => ?_)
  refine aa_turn hlf S I Z 1 2 8 (by decide +kernel) (by decide +kernel) (by decide +kernel) hl (Nat.le_of_ble_eq_true rfl) (Nat.le_of_ble_eq_true rfl) (fun H locs ls I hg hl => ?_)
  replace hz : s.heap.size + 16 ≤ H.size := by omega
  refine lv_iload S.1 S.2.1 dL_areAlike_53 (lv_at hl 0 rfl) ?_
  refine lv_iconst (v := 5) S.1 S.2.1 dL_areAlike_55 (by decide) ?_
  refine lv_icmp_ge (tgt := 179) S.1 S.2.1 dL_areAlike_56 (by decide) (fun c1 => absurd c1 (by decide)) (fun _ => ?_)
  refine lv_iload_n S.1 S.2.1 dL_areAlike_59 rfl (lv_at hl 1 rfl) ?_
  refine lv_if_eq (tgt := 179) S.1 S.2.1 dL_areAlike_60 (by decide) (fun c1 => absurd c1 (by decide)) (fun _ => ?_)
  refine aa_turn hlf S I Z 2 3 4 (by decide +kernel) (by decide +kernel) (by decide +kernel) hl (Nat.le_of_ble_eq_true rfl) (Nat.le_of_ble_eq_true rfl) (fun H locs ls I hg hl => ?_)
  replace hz : s.heap.size + 24 ≤ H.size := by omega
  refine lv_iload S.1 S.2.1 dL_areAlike_53 (lv_at hl 0 rfl) ?_
  refine lv_iconst (v := 5) S.1 S.2.1 dL_areAlike_55 (by decide) ?_
  refine lv_icmp_ge (tgt := 179) S.1 S.2.1 dL_areAlike_56 (by decide) (fun c1 => absurd c1 (by decide)) (fun _ => ?_)
  refine lv_iload_n S.1 S.2.1 dL_areAlike_59 rfl (lv_at hl 1 rfl) ?_
  refine lv_if_eq (tgt := 179) S.1 S.2.1 dL_areAlike_60 (by decide) (fun c1 => absurd c1 (by decide)) (fun _ => ?_)
  refine aa_turn hlf S I Z 3 4 2 (by decide +kernel) (by decide +kernel) (by decide +kernel) hl (Nat.le_of_ble_eq_true rfl) (Nat.le_of_ble_eq_true rfl) (fun H locs ls I hg hl => ?_)
  replace hz : s.heap.size + 32 ≤ H.size := by omega
  refine lv_iload S.1 S.2.1 dL_areAlike_53 (lv_at hl 0 rfl) ?_
  refine lv_iconst (v := 5) S.1 S.2.1 dL_areAlike_55 (by decide) ?_
  refine lv_icmp_ge (tgt := 179) S.1 S.2.1 dL_areAlike_56 (by decide) (fun c1 => absurd c1 (by decide)) (fun _ => ?_)
  refine lv_iload_n S.1 S.2.1 dL_areAlike_59 rfl (lv_at hl 1 rfl) ?_
  refine lv_if_eq (tgt := 179) S.1 S.2.1 dL_areAlike_60 (by decide) (fun c1 => absurd c1 (by decide)) (fun _ => ?_)
  refine aa_turn hlf S I Z 4 5 1 (by decide +kernel) (by decide +kernel) (by decide +kernel) hl (Nat.le_of_ble_eq_true rfl) (Nat.le_of_ble_eq_true rfl) (fun H locs ls I hg hl => ?_)
  replace hz : s.heap.size + 40 ≤ H.size := by omega
  refine lv_iload S.1 S.2.1 dL_areAlike_53 (lv_at hl 0 rfl) ?_
  refine lv_iconst (v := 5) S.1 S.2.1 dL_areAlike_55 (by decide) ?_
  refine lv_icmp_ge (tgt := 179) S.1 S.2.1 dL_areAlike_56 (by decide) (fun _ => ?_) (fun c1 => absurd c1 (by decide))
  refine lv_iload_n S.1 S.2.1 dL_areAlike_179 rfl (lv_at hl 1 rfl) ?_
  refine W.widen (k := 40) (n := 240) (Nat.le_of_ble_eq_true rfl) (Nat.le_of_ble_eq_true rfl) ?_
  exact g_ret S E rfl rfl I hz dL_areAlike_180
end GAA
