section GISO
/-! isSo of a court as it is made, and 136 -/
def rmL_isSo : Room := { frames := 11, cells := 40, slots := 240, locals := 250 }
set_option maxHeartbeats 8000000 in
set_option maxRecDepth 100000 in
theorem iso_0 {p : Program} {l : Launch} {e : Env} {s : State} {m : MethodId} {args : Array Value} {below : List Frame} {meth : Method} {c : Code} {H : Heap} {locs : List Loc} {cells slots : Nat} {Q : State → Prop} {D : va_G} {A : Nat → Prop} {sa : Nat → Nat} {ls : Array Slot} {cI cC cZ : ClassId} {h : Nat} {a b d z q : Nat → Nat} (hlf : l.stackTraces = false) (S : CallFix p m c cL_isSo 11 s args wsL_isSo RL) (I : xI D A s (w5 cI cC cZ h a b d z q) (xT cI cC cZ) H locs) (Z : yZ sa A s s.heap)
    (hl : lv_has ls 11 [(0, .ref h), (1, .int 136)]) (hc : cells + 0 ≤ 40) (hs : slots + 0 ≤ 240)
    (kk : ∀ (H1 : Heap) (locs1 : List Loc) (ls1 : Array Slot), xI D A s (w5 cI cC cZ h a b d z q) (xT cI cC cZ) H1 locs1 → H.size ≤ H1.size → lv_has ls1 11 [(6, .int 0), (5, .int 0), (4, .int 1), (3, .int (-1)), (2, .int (-1)), (0, .ref h), (1, .int 136)] → W p l e (headSpec wsL_isSo rmL_isSo).room s m args below meth c H1 locs1 (cells + 0) (slots + 0) Q (F0 m 82 ls1 [])) :
    W p l e (headSpec wsL_isSo rmL_isSo).room s m args below meth c H locs cells slots Q (F0 m 0 ls []) := by
  obtain ⟨N, hN⟩ : ∃ N : Nat, N = H.size := ⟨_, rfl⟩
  have hz : N + 0 ≤ H.size := by omega
  refine lv_aload_n S.1 S.2.1 dL_isSo_0 rfl (lv_at hl 0 rfl) ?_
  refine g_v5 (v := (-1)) (As := []) (rest := []) S I (tX5_sigma l D cI cC cZ h a b d z q xFp0 xG0 xF0 xG0 xF0 xG0 xF0 xG0 (-1) g_sigma) rfl rfl (cwV 0 S.2.2.2.2 gL_isSo_X5_sigma rfl rfl rfl (by decide +kernel) ⟨Nat.le_of_ble_eq_true rfl, Nat.le_of_ble_eq_true rfl⟩) hl rfl (Nat.le_of_ble_eq_true rfl) ⟨by show _ ≤ 40; omega, by show _ ≤ 240; omega⟩ dL_isSo_1 (fun H locs I hg => ?_)
  replace hz : N + 0 ≤ H.size := by omega
  refine lv_istore_n (lv' := [(2, .int (-1)), (0, .ref h), (1, .int 136)]) S.1 S.2.1 dL_isSo_4 rfl hl (by decide) rfl (fun ls hl => ?_)
  refine lv_aload_n S.1 S.2.1 dL_isSo_5 rfl (lv_at hl 1 rfl) ?_
  refine g_v5 (v := (-1)) (As := []) (rest := []) S I (tX5_pi l D cI cC cZ h a b d z q xFp0 xG0 xF0 xG0 xF0 xG0 xF0 xG0 (-1) g_pi) rfl rfl (cwV 0 S.2.2.2.2 gL_isSo_X5_pi rfl rfl rfl (by decide +kernel) ⟨Nat.le_of_ble_eq_true rfl, Nat.le_of_ble_eq_true rfl⟩) hl rfl (Nat.le_of_ble_eq_true rfl) ⟨by show _ ≤ 40; omega, by show _ ≤ 240; omega⟩ dL_isSo_6 (fun H locs I hg => ?_)
  replace hz : N + 0 ≤ H.size := by omega
  refine lv_istore_n (lv' := [(3, .int (-1)), (2, .int (-1)), (0, .ref h), (1, .int 136)]) S.1 S.2.1 dL_isSo_9 rfl hl (by decide) rfl (fun ls hl => ?_)
  refine lv_iload_n S.1 S.2.1 dL_isSo_10 rfl (lv_at hl 1 rfl) ?_
  refine lv_if_ge (tgt := 18) S.1 S.2.1 dL_isSo_11 (by decide) (fun c1 => absurd c1 (by decide)) (fun _ => ?_)
  refine lv_iconst (v := 1) S.1 S.2.1 dL_isSo_14 (by decide) ?_
  refine lv_goto (tgt := 19) S.1 S.2.1 dL_isSo_15 (by decide) ?_
  refine lv_iload_n S.1 S.2.1 dL_isSo_19 rfl (lv_at hl 0 rfl) ?_
  refine lv_if_ge (tgt := 27) S.1 S.2.1 dL_isSo_20 (by decide) (fun c1 => absurd c1 (by decide)) (fun _ => ?_)
  refine lv_iconst (v := 1) S.1 S.2.1 dL_isSo_23 (by decide) ?_
  refine lv_goto (tgt := 28) S.1 S.2.1 dL_isSo_24 (by decide) ?_
  refine lv_icmp_ne (tgt := 73) S.1 S.2.1 dL_isSo_28 (by decide) (fun c1 => absurd c1 (by decide)) (fun _ => ?_)
  refine lv_iload_n S.1 S.2.1 dL_isSo_31 rfl (lv_at hl 1 rfl) ?_
  refine lv_iload_n S.1 S.2.1 dL_isSo_32 rfl (lv_at hl 0 rfl) ?_
  refine lv_isub S.1 S.2.1 dL_isSo_33 ?_
  refine g_top (y := 0) (by decide +kernel) ?_
  refine lv_iconst (v := 2) S.1 S.2.1 dL_isSo_34 (by decide) ?_
  refine lv_icmp_ge (tgt := 73) S.1 S.2.1 dL_isSo_35 (by decide) (fun c1 => absurd c1 (by decide)) (fun _ => ?_)
  refine lv_iload_n S.1 S.2.1 dL_isSo_38 rfl (lv_at hl 0 rfl) ?_
  refine lv_iload_n S.1 S.2.1 dL_isSo_39 rfl (lv_at hl 1 rfl) ?_
  refine lv_isub S.1 S.2.1 dL_isSo_40 ?_
  refine g_top (y := 0) (by decide +kernel) ?_
  refine lv_iconst (v := 2) S.1 S.2.1 dL_isSo_41 (by decide) ?_
  refine lv_icmp_ge (tgt := 73) S.1 S.2.1 dL_isSo_42 (by decide) (fun c1 => absurd c1 (by decide)) (fun _ => ?_)
  refine lv_iload_n S.1 S.2.1 dL_isSo_45 rfl (lv_at hl 1 rfl) ?_
  refine lv_if_ge (tgt := 53) S.1 S.2.1 dL_isSo_46 (by decide) (fun c1 => absurd c1 (by decide)) (fun _ => ?_)
  refine lv_iconst (v := 1) S.1 S.2.1 dL_isSo_49 (by decide) ?_
  refine lv_goto (tgt := 54) S.1 S.2.1 dL_isSo_50 (by decide) ?_
  refine lv_aload_n S.1 S.2.1 dL_isSo_54 rfl (lv_at hl 2 rfl) ?_
  refine g_v5 (v := (-1)) (As := []) (rest := [.int 1]) S I (tX5_free l D cI cC cZ h a b d z q xFp0 xG0 xF0 xG0 xF0 xG0 xF0 xG0 (-1) g_free) rfl rfl (cwV 0 S.2.2.2.2 gL_isSo_X5_free rfl rfl rfl (by decide +kernel) ⟨Nat.le_of_ble_eq_true rfl, Nat.le_of_ble_eq_true rfl⟩) hl rfl (Nat.le_of_ble_eq_true rfl) ⟨by show _ ≤ 40; omega, by show _ ≤ 240; omega⟩ dL_isSo_55 (fun H locs I hg => ?_)
  replace hz : N + 0 ≤ H.size := by omega
  refine lv_if_ge (tgt := 65) S.1 S.2.1 dL_isSo_58 (by decide) (fun c1 => absurd c1 (by decide)) (fun _ => ?_)
  refine lv_iconst (v := 1) S.1 S.2.1 dL_isSo_61 (by decide) ?_
  refine lv_goto (tgt := 66) S.1 S.2.1 dL_isSo_62 (by decide) ?_
  refine lv_icmp_ne (tgt := 73) S.1 S.2.1 dL_isSo_66 (by decide) (fun c1 => absurd c1 (by decide)) (fun _ => ?_)
  refine lv_iconst (v := 1) S.1 S.2.1 dL_isSo_69 (by decide) ?_
  refine lv_goto (tgt := 74) S.1 S.2.1 dL_isSo_70 (by decide) ?_
  refine lv_istore (lv' := [(4, .int 1), (3, .int (-1)), (2, .int (-1)), (0, .ref h), (1, .int 136)]) S.1 S.2.1 dL_isSo_74 hl (by decide) rfl (fun ls hl => ?_)
  refine lv_iconst (v := 0) S.1 S.2.1 dL_isSo_76 (by decide) ?_
  refine lv_istore (lv' := [(5, .int 0), (4, .int 1), (3, .int (-1)), (2, .int (-1)), (0, .ref h), (1, .int 136)]) S.1 S.2.1 dL_isSo_77 hl (by decide) rfl (fun ls hl => ?_)
  refine lv_iconst (v := 0) S.1 S.2.1 dL_isSo_79 (by decide) ?_
  refine lv_istore (lv' := [(6, .int 0), (5, .int 0), (4, .int 1), (3, .int (-1)), (2, .int (-1)), (0, .ref h), (1, .int 136)]) S.1 S.2.1 dL_isSo_80 hl (by decide) rfl (fun ls hl => ?_)
  refine W.widen (k := cells + 0) (n := slots + 0) (by omega) (by omega) ?_
  exact kk H locs ls I (by omega) hl
set_option maxHeartbeats 8000000 in
set_option maxRecDepth 100000 in
theorem iso_82 {p : Program} {l : Launch} {e : Env} {s : State} {m : MethodId} {args : Array Value} {below : List Frame} {meth : Method} {c : Code} {H : Heap} {locs : List Loc} {cells slots : Nat} {Q : State → Prop} {D : va_G} {A : Nat → Prop} {sa : Nat → Nat} {ls : Array Slot} {cI cC cZ : ClassId} {h : Nat} {a b d z q : Nat → Nat} (hlf : l.stackTraces = false) (S : CallFix p m c cL_isSo 11 s args wsL_isSo RL) (I : xI D A s (w5 cI cC cZ h a b d z q) (xT cI cC cZ) H locs) (Z : yZ sa A s s.heap)
    (hl : lv_has ls 11 [(6, .int 0), (5, .int 0), (4, .int 1), (3, .int (-1)), (2, .int (-1)), (0, .ref h), (1, .int 136)]) (hc : cells + 10 ≤ 40) (hs : slots + 60 ≤ 240)
    (kk : ∀ (H1 : Heap) (locs1 : List Loc) (ls1 : Array Slot), xI D A s (w5 cI cC cZ h a b d z q) (xT cI cC cZ) H1 locs1 → H.size ≤ H1.size → lv_has ls1 11 [(6, .int 10), (5, .int 0), (4, .int 1), (3, .int (-1)), (2, .int (-1)), (0, .ref h), (1, .int 136)] → W p l e (headSpec wsL_isSo rmL_isSo).room s m args below meth c H1 locs1 (cells + 10) (slots + 60) Q (F0 m 115 ls1 [])) :
    W p l e (headSpec wsL_isSo rmL_isSo).room s m args below meth c H locs cells slots Q (F0 m 82 ls []) := by
  obtain ⟨N, hN⟩ : ∃ N : Nat, N = H.size := ⟨_, rfl⟩
  have hz : N + 0 ≤ H.size := by omega
  refine lv_iload S.1 S.2.1 dL_isSo_82 (lv_at hl 0 rfl) ?_
  refine lv_bipush (v := 10) S.1 S.2.1 dL_isSo_84 (by decide) ?_
  refine lv_icmp_ge (tgt := 115) S.1 S.2.1 dL_isSo_86 (by decide) (fun c1 => absurd c1 (by decide)) (fun _ => ?_)
  refine lv_iload S.1 S.2.1 dL_isSo_89 (lv_at hl 1 rfl) ?_
  refine lv_aload_n S.1 S.2.1 dL_isSo_91 rfl (lv_at hl 5 rfl) ?_
  refine lv_iload S.1 S.2.1 dL_isSo_92 (lv_at hl 0 rfl) ?_
  refine lv_iconst (v := 0) S.1 S.2.1 dL_isSo_94 (by decide) ?_
  refine g_h5 (v := -99999999) (As := [.ref h, .int 0, .int 0]) (rest := [.int 0]) S I Z (tL_ofPrinciple l hlf sa D cI cC cZ h a b d z q 0 0) (vx_cwSW 3 S.2.2.2.2 gL_isSo_L_ofPrinciple rfl rfl rfl (by decide +kernel) ⟨Nat.le_of_ble_eq_true rfl, Nat.le_of_ble_eq_true rfl⟩) hl rfl (Nat.le_of_ble_eq_true rfl) ⟨by show _ ≤ 40; omega, by show _ ≤ 240; omega⟩ dL_isSo_95 (fun H locs I hg => ?_)
  replace hz : N + 0 ≤ H.size := by omega
  refine lv_if_lt (tgt := 105) S.1 S.2.1 dL_isSo_98 (by decide) (fun _ => ?_) (fun c1 => absurd c1 (by decide))
  refine lv_iconst (v := 0) S.1 S.2.1 dL_isSo_105 (by decide) ?_
  refine lv_iadd S.1 S.2.1 dL_isSo_106 ?_
  refine g_top (y := 0) (by decide +kernel) ?_
  refine lv_istore (lv' := [(5, .int 0), (6, .int 0), (4, .int 1), (3, .int (-1)), (2, .int (-1)), (0, .ref h), (1, .int 136)]) S.1 S.2.1 dL_isSo_107 hl (by decide) rfl (fun ls hl => ?_)
  refine lv_iinc (k := 1) (lv' := [(6, .int 1), (5, .int 0), (4, .int 1), (3, .int (-1)), (2, .int (-1)), (0, .ref h), (1, .int 136)]) S.1 S.2.1 dL_isSo_109 hl rfl (by decide +kernel) (by decide) rfl (fun ls hl => ?_)
  refine lv_goto (tgt := 82) S.1 S.2.1 dL_isSo_112 (by decide) ?_
  refine lv_iload S.1 S.2.1 dL_isSo_82 (lv_at hl 0 rfl) ?_
  refine lv_bipush (v := 10) S.1 S.2.1 dL_isSo_84 (by decide) ?_
  refine lv_icmp_ge (tgt := 115) S.1 S.2.1 dL_isSo_86 (by decide) (fun c1 => absurd c1 (by decide)) (fun _ => ?_)
  refine lv_iload S.1 S.2.1 dL_isSo_89 (lv_at hl 1 rfl) ?_
  refine lv_aload_n S.1 S.2.1 dL_isSo_91 rfl (lv_at hl 5 rfl) ?_
  refine lv_iload S.1 S.2.1 dL_isSo_92 (lv_at hl 0 rfl) ?_
  refine lv_iconst (v := 0) S.1 S.2.1 dL_isSo_94 (by decide) ?_
  refine g_h5 (v := -99999999) (As := [.ref h, .int 1, .int 0]) (rest := [.int 0]) S I Z (tL_ofPrinciple l hlf sa D cI cC cZ h a b d z q 1 0) (vx_cwSW 3 S.2.2.2.2 gL_isSo_L_ofPrinciple rfl rfl rfl (by decide +kernel) ⟨Nat.le_of_ble_eq_true rfl, Nat.le_of_ble_eq_true rfl⟩) hl rfl (Nat.le_of_ble_eq_true rfl) ⟨by show _ ≤ 40; omega, by show _ ≤ 240; omega⟩ dL_isSo_95 (fun H locs I hg => ?_)
  replace hz : N + 0 ≤ H.size := by omega
  refine lv_if_lt (tgt := 105) S.1 S.2.1 dL_isSo_98 (by decide) (fun _ => ?_) (fun c1 => absurd c1 (by decide))
  refine lv_iconst (v := 0) S.1 S.2.1 dL_isSo_105 (by decide) ?_
  refine lv_iadd S.1 S.2.1 dL_isSo_106 ?_
  refine g_top (y := 0) (by decide +kernel) ?_
  refine lv_istore (lv' := [(5, .int 0), (6, .int 1), (4, .int 1), (3, .int (-1)), (2, .int (-1)), (0, .ref h), (1, .int 136)]) S.1 S.2.1 dL_isSo_107 hl (by decide) rfl (fun ls hl => ?_)
  refine lv_iinc (k := 1) (lv' := [(6, .int 2), (5, .int 0), (4, .int 1), (3, .int (-1)), (2, .int (-1)), (0, .ref h), (1, .int 136)]) S.1 S.2.1 dL_isSo_109 hl rfl (by decide +kernel) (by decide) rfl (fun ls hl => ?_)
  refine lv_goto (tgt := 82) S.1 S.2.1 dL_isSo_112 (by decide) ?_
  refine lv_iload S.1 S.2.1 dL_isSo_82 (lv_at hl 0 rfl) ?_
  refine lv_bipush (v := 10) S.1 S.2.1 dL_isSo_84 (by decide) ?_
  refine lv_icmp_ge (tgt := 115) S.1 S.2.1 dL_isSo_86 (by decide) (fun c1 => absurd c1 (by decide)) (fun _ => ?_)
  refine lv_iload S.1 S.2.1 dL_isSo_89 (lv_at hl 1 rfl) ?_
  refine lv_aload_n S.1 S.2.1 dL_isSo_91 rfl (lv_at hl 5 rfl) ?_
  refine lv_iload S.1 S.2.1 dL_isSo_92 (lv_at hl 0 rfl) ?_
  refine lv_iconst (v := 0) S.1 S.2.1 dL_isSo_94 (by decide) ?_
  refine g_h5 (v := -99999999) (As := [.ref h, .int 2, .int 0]) (rest := [.int 0]) S I Z (tL_ofPrinciple l hlf sa D cI cC cZ h a b d z q 2 0) (vx_cwSW 3 S.2.2.2.2 gL_isSo_L_ofPrinciple rfl rfl rfl (by decide +kernel) ⟨Nat.le_of_ble_eq_true rfl, Nat.le_of_ble_eq_true rfl⟩) hl rfl (Nat.le_of_ble_eq_true rfl) ⟨by show _ ≤ 40; omega, by show _ ≤ 240; omega⟩ dL_isSo_95 (fun H locs I hg => ?_)
  replace hz : N + 0 ≤ H.size := by omega
  refine lv_if_lt (tgt := 105) S.1 S.2.1 dL_isSo_98 (by decide) (fun _ => ?_) (fun c1 => absurd c1 (by decide))
  refine lv_iconst (v := 0) S.1 S.2.1 dL_isSo_105 (by decide) ?_
  refine lv_iadd S.1 S.2.1 dL_isSo_106 ?_
  refine g_top (y := 0) (by decide +kernel) ?_
  refine lv_istore (lv' := [(5, .int 0), (6, .int 2), (4, .int 1), (3, .int (-1)), (2, .int (-1)), (0, .ref h), (1, .int 136)]) S.1 S.2.1 dL_isSo_107 hl (by decide) rfl (fun ls hl => ?_)
  refine lv_iinc (k := 1) (lv' := [(6, .int 3), (5, .int 0), (4, .int 1), (3, .int (-1)), (2, .int (-1)), (0, .ref h), (1, .int 136)]) S.1 S.2.1 dL_isSo_109 hl rfl (by decide +kernel) (by decide) rfl (fun ls hl => ?_)
  refine lv_goto (tgt := 82) S.1 S.2.1 dL_isSo_112 (by decide) ?_
  refine lv_iload S.1 S.2.1 dL_isSo_82 (lv_at hl 0 rfl) ?_
  refine lv_bipush (v := 10) S.1 S.2.1 dL_isSo_84 (by decide) ?_
  refine lv_icmp_ge (tgt := 115) S.1 S.2.1 dL_isSo_86 (by decide) (fun c1 => absurd c1 (by decide)) (fun _ => ?_)
  refine lv_iload S.1 S.2.1 dL_isSo_89 (lv_at hl 1 rfl) ?_
  refine lv_aload_n S.1 S.2.1 dL_isSo_91 rfl (lv_at hl 5 rfl) ?_
  refine lv_iload S.1 S.2.1 dL_isSo_92 (lv_at hl 0 rfl) ?_
  refine lv_iconst (v := 0) S.1 S.2.1 dL_isSo_94 (by decide) ?_
  refine g_h5 (v := -99999999) (As := [.ref h, .int 3, .int 0]) (rest := [.int 0]) S I Z (tL_ofPrinciple l hlf sa D cI cC cZ h a b d z q 3 0) (vx_cwSW 3 S.2.2.2.2 gL_isSo_L_ofPrinciple rfl rfl rfl (by decide +kernel) ⟨Nat.le_of_ble_eq_true rfl, Nat.le_of_ble_eq_true rfl⟩) hl rfl (Nat.le_of_ble_eq_true rfl) ⟨by show _ ≤ 40; omega, by show _ ≤ 240; omega⟩ dL_isSo_95 (fun H locs I hg => ?_)
  replace hz : N + 0 ≤ H.size := by omega
  refine lv_if_lt (tgt := 105) S.1 S.2.1 dL_isSo_98 (by decide) (fun _ => ?_) (fun c1 => absurd c1 (by decide))
  refine lv_iconst (v := 0) S.1 S.2.1 dL_isSo_105 (by decide) ?_
  refine lv_iadd S.1 S.2.1 dL_isSo_106 ?_
  refine g_top (y := 0) (by decide +kernel) ?_
  refine lv_istore (lv' := [(5, .int 0), (6, .int 3), (4, .int 1), (3, .int (-1)), (2, .int (-1)), (0, .ref h), (1, .int 136)]) S.1 S.2.1 dL_isSo_107 hl (by decide) rfl (fun ls hl => ?_)
  refine lv_iinc (k := 1) (lv' := [(6, .int 4), (5, .int 0), (4, .int 1), (3, .int (-1)), (2, .int (-1)), (0, .ref h), (1, .int 136)]) S.1 S.2.1 dL_isSo_109 hl rfl (by decide +kernel) (by decide) rfl (fun ls hl => ?_)
  refine lv_goto (tgt := 82) S.1 S.2.1 dL_isSo_112 (by decide) ?_
  refine lv_iload S.1 S.2.1 dL_isSo_82 (lv_at hl 0 rfl) ?_
  refine lv_bipush (v := 10) S.1 S.2.1 dL_isSo_84 (by decide) ?_
  refine lv_icmp_ge (tgt := 115) S.1 S.2.1 dL_isSo_86 (by decide) (fun c1 => absurd c1 (by decide)) (fun _ => ?_)
  refine lv_iload S.1 S.2.1 dL_isSo_89 (lv_at hl 1 rfl) ?_
  refine lv_aload_n S.1 S.2.1 dL_isSo_91 rfl (lv_at hl 5 rfl) ?_
  refine lv_iload S.1 S.2.1 dL_isSo_92 (lv_at hl 0 rfl) ?_
  refine lv_iconst (v := 0) S.1 S.2.1 dL_isSo_94 (by decide) ?_
  refine g_h5 (v := -99999999) (As := [.ref h, .int 4, .int 0]) (rest := [.int 0]) S I Z (tL_ofPrinciple l hlf sa D cI cC cZ h a b d z q 4 0) (vx_cwSW 3 S.2.2.2.2 gL_isSo_L_ofPrinciple rfl rfl rfl (by decide +kernel) ⟨Nat.le_of_ble_eq_true rfl, Nat.le_of_ble_eq_true rfl⟩) hl rfl (Nat.le_of_ble_eq_true rfl) ⟨by show _ ≤ 40; omega, by show _ ≤ 240; omega⟩ dL_isSo_95 (fun H locs I hg => ?_)
  replace hz : N + 0 ≤ H.size := by omega
  refine lv_if_lt (tgt := 105) S.1 S.2.1 dL_isSo_98 (by decide) (fun _ => ?_) (fun c1 => absurd c1 (by decide))
  refine lv_iconst (v := 0) S.1 S.2.1 dL_isSo_105 (by decide) ?_
  refine lv_iadd S.1 S.2.1 dL_isSo_106 ?_
  refine g_top (y := 0) (by decide +kernel) ?_
  refine lv_istore (lv' := [(5, .int 0), (6, .int 4), (4, .int 1), (3, .int (-1)), (2, .int (-1)), (0, .ref h), (1, .int 136)]) S.1 S.2.1 dL_isSo_107 hl (by decide) rfl (fun ls hl => ?_)
  refine lv_iinc (k := 1) (lv' := [(6, .int 5), (5, .int 0), (4, .int 1), (3, .int (-1)), (2, .int (-1)), (0, .ref h), (1, .int 136)]) S.1 S.2.1 dL_isSo_109 hl rfl (by decide +kernel) (by decide) rfl (fun ls hl => ?_)
  refine lv_goto (tgt := 82) S.1 S.2.1 dL_isSo_112 (by decide) ?_
  refine lv_iload S.1 S.2.1 dL_isSo_82 (lv_at hl 0 rfl) ?_
  refine lv_bipush (v := 10) S.1 S.2.1 dL_isSo_84 (by decide) ?_
  refine lv_icmp_ge (tgt := 115) S.1 S.2.1 dL_isSo_86 (by decide) (fun c1 => absurd c1 (by decide)) (fun _ => ?_)
  refine lv_iload S.1 S.2.1 dL_isSo_89 (lv_at hl 1 rfl) ?_
  refine lv_aload_n S.1 S.2.1 dL_isSo_91 rfl (lv_at hl 5 rfl) ?_
  refine lv_iload S.1 S.2.1 dL_isSo_92 (lv_at hl 0 rfl) ?_
  refine lv_iconst (v := 0) S.1 S.2.1 dL_isSo_94 (by decide) ?_
  refine g_h5 (v := -99999999) (As := [.ref h, .int 5, .int 0]) (rest := [.int 0]) S I Z (tL_ofPrinciple l hlf sa D cI cC cZ h a b d z q 5 0) (vx_cwSW 3 S.2.2.2.2 gL_isSo_L_ofPrinciple rfl rfl rfl (by decide +kernel) ⟨Nat.le_of_ble_eq_true rfl, Nat.le_of_ble_eq_true rfl⟩) hl rfl (Nat.le_of_ble_eq_true rfl) ⟨by show _ ≤ 40; omega, by show _ ≤ 240; omega⟩ dL_isSo_95 (fun H locs I hg => ?_)
  replace hz : N + 0 ≤ H.size := by omega
  refine lv_if_lt (tgt := 105) S.1 S.2.1 dL_isSo_98 (by decide) (fun _ => ?_) (fun c1 => absurd c1 (by decide))
  refine lv_iconst (v := 0) S.1 S.2.1 dL_isSo_105 (by decide) ?_
  refine lv_iadd S.1 S.2.1 dL_isSo_106 ?_
  refine g_top (y := 0) (by decide +kernel) ?_
  refine lv_istore (lv' := [(5, .int 0), (6, .int 5), (4, .int 1), (3, .int (-1)), (2, .int (-1)), (0, .ref h), (1, .int 136)]) S.1 S.2.1 dL_isSo_107 hl (by decide) rfl (fun ls hl => ?_)
  refine lv_iinc (k := 1) (lv' := [(6, .int 6), (5, .int 0), (4, .int 1), (3, .int (-1)), (2, .int (-1)), (0, .ref h), (1, .int 136)]) S.1 S.2.1 dL_isSo_109 hl rfl (by decide +kernel) (by decide) rfl (fun ls hl => ?_)
  refine lv_goto (tgt := 82) S.1 S.2.1 dL_isSo_112 (by decide) ?_
  refine lv_iload S.1 S.2.1 dL_isSo_82 (lv_at hl 0 rfl) ?_
  refine lv_bipush (v := 10) S.1 S.2.1 dL_isSo_84 (by decide) ?_
  refine lv_icmp_ge (tgt := 115) S.1 S.2.1 dL_isSo_86 (by decide) (fun c1 => absurd c1 (by decide)) (fun _ => ?_)
  refine lv_iload S.1 S.2.1 dL_isSo_89 (lv_at hl 1 rfl) ?_
  refine lv_aload_n S.1 S.2.1 dL_isSo_91 rfl (lv_at hl 5 rfl) ?_
  refine lv_iload S.1 S.2.1 dL_isSo_92 (lv_at hl 0 rfl) ?_
  refine lv_iconst (v := 0) S.1 S.2.1 dL_isSo_94 (by decide) ?_
  refine g_h5 (v := -99999999) (As := [.ref h, .int 6, .int 0]) (rest := [.int 0]) S I Z (tL_ofPrinciple l hlf sa D cI cC cZ h a b d z q 6 0) (vx_cwSW 3 S.2.2.2.2 gL_isSo_L_ofPrinciple rfl rfl rfl (by decide +kernel) ⟨Nat.le_of_ble_eq_true rfl, Nat.le_of_ble_eq_true rfl⟩) hl rfl (Nat.le_of_ble_eq_true rfl) ⟨by show _ ≤ 40; omega, by show _ ≤ 240; omega⟩ dL_isSo_95 (fun H locs I hg => ?_)
  replace hz : N + 0 ≤ H.size := by omega
  refine lv_if_lt (tgt := 105) S.1 S.2.1 dL_isSo_98 (by decide) (fun _ => ?_) (fun c1 => absurd c1 (by decide))
  refine lv_iconst (v := 0) S.1 S.2.1 dL_isSo_105 (by decide) ?_
  refine lv_iadd S.1 S.2.1 dL_isSo_106 ?_
  refine g_top (y := 0) (by decide +kernel) ?_
  refine lv_istore (lv' := [(5, .int 0), (6, .int 6), (4, .int 1), (3, .int (-1)), (2, .int (-1)), (0, .ref h), (1, .int 136)]) S.1 S.2.1 dL_isSo_107 hl (by decide) rfl (fun ls hl => ?_)
  refine lv_iinc (k := 1) (lv' := [(6, .int 7), (5, .int 0), (4, .int 1), (3, .int (-1)), (2, .int (-1)), (0, .ref h), (1, .int 136)]) S.1 S.2.1 dL_isSo_109 hl rfl (by decide +kernel) (by decide) rfl (fun ls hl => ?_)
  refine lv_goto (tgt := 82) S.1 S.2.1 dL_isSo_112 (by decide) ?_
  refine lv_iload S.1 S.2.1 dL_isSo_82 (lv_at hl 0 rfl) ?_
  refine lv_bipush (v := 10) S.1 S.2.1 dL_isSo_84 (by decide) ?_
  refine lv_icmp_ge (tgt := 115) S.1 S.2.1 dL_isSo_86 (by decide) (fun c1 => absurd c1 (by decide)) (fun _ => ?_)
  refine lv_iload S.1 S.2.1 dL_isSo_89 (lv_at hl 1 rfl) ?_
  refine lv_aload_n S.1 S.2.1 dL_isSo_91 rfl (lv_at hl 5 rfl) ?_
  refine lv_iload S.1 S.2.1 dL_isSo_92 (lv_at hl 0 rfl) ?_
  refine lv_iconst (v := 0) S.1 S.2.1 dL_isSo_94 (by decide) ?_
  refine g_h5 (v := -99999999) (As := [.ref h, .int 7, .int 0]) (rest := [.int 0]) S I Z (tL_ofPrinciple l hlf sa D cI cC cZ h a b d z q 7 0) (vx_cwSW 3 S.2.2.2.2 gL_isSo_L_ofPrinciple rfl rfl rfl (by decide +kernel) ⟨Nat.le_of_ble_eq_true rfl, Nat.le_of_ble_eq_true rfl⟩) hl rfl (Nat.le_of_ble_eq_true rfl) ⟨by show _ ≤ 40; omega, by show _ ≤ 240; omega⟩ dL_isSo_95 (fun H locs I hg => ?_)
  replace hz : N + 0 ≤ H.size := by omega
  refine lv_if_lt (tgt := 105) S.1 S.2.1 dL_isSo_98 (by decide) (fun _ => ?_) (fun c1 => absurd c1 (by decide))
  refine lv_iconst (v := 0) S.1 S.2.1 dL_isSo_105 (by decide) ?_
  refine lv_iadd S.1 S.2.1 dL_isSo_106 ?_
  refine g_top (y := 0) (by decide +kernel) ?_
  refine lv_istore (lv' := [(5, .int 0), (6, .int 7), (4, .int 1), (3, .int (-1)), (2, .int (-1)), (0, .ref h), (1, .int 136)]) S.1 S.2.1 dL_isSo_107 hl (by decide) rfl (fun ls hl => ?_)
  refine lv_iinc (k := 1) (lv' := [(6, .int 8), (5, .int 0), (4, .int 1), (3, .int (-1)), (2, .int (-1)), (0, .ref h), (1, .int 136)]) S.1 S.2.1 dL_isSo_109 hl rfl (by decide +kernel) (by decide) rfl (fun ls hl => ?_)
  refine lv_goto (tgt := 82) S.1 S.2.1 dL_isSo_112 (by decide) ?_
  refine lv_iload S.1 S.2.1 dL_isSo_82 (lv_at hl 0 rfl) ?_
  refine lv_bipush (v := 10) S.1 S.2.1 dL_isSo_84 (by decide) ?_
  refine lv_icmp_ge (tgt := 115) S.1 S.2.1 dL_isSo_86 (by decide) (fun c1 => absurd c1 (by decide)) (fun _ => ?_)
  refine lv_iload S.1 S.2.1 dL_isSo_89 (lv_at hl 1 rfl) ?_
  refine lv_aload_n S.1 S.2.1 dL_isSo_91 rfl (lv_at hl 5 rfl) ?_
  refine lv_iload S.1 S.2.1 dL_isSo_92 (lv_at hl 0 rfl) ?_
  refine lv_iconst (v := 0) S.1 S.2.1 dL_isSo_94 (by decide) ?_
  refine g_h5 (v := -99999999) (As := [.ref h, .int 8, .int 0]) (rest := [.int 0]) S I Z (tL_ofPrinciple l hlf sa D cI cC cZ h a b d z q 8 0) (vx_cwSW 3 S.2.2.2.2 gL_isSo_L_ofPrinciple rfl rfl rfl (by decide +kernel) ⟨Nat.le_of_ble_eq_true rfl, Nat.le_of_ble_eq_true rfl⟩) hl rfl (Nat.le_of_ble_eq_true rfl) ⟨by show _ ≤ 40; omega, by show _ ≤ 240; omega⟩ dL_isSo_95 (fun H locs I hg => ?_)
  replace hz : N + 0 ≤ H.size := by omega
  refine lv_if_lt (tgt := 105) S.1 S.2.1 dL_isSo_98 (by decide) (fun _ => ?_) (fun c1 => absurd c1 (by decide))
  refine lv_iconst (v := 0) S.1 S.2.1 dL_isSo_105 (by decide) ?_
  refine lv_iadd S.1 S.2.1 dL_isSo_106 ?_
  refine g_top (y := 0) (by decide +kernel) ?_
  refine lv_istore (lv' := [(5, .int 0), (6, .int 8), (4, .int 1), (3, .int (-1)), (2, .int (-1)), (0, .ref h), (1, .int 136)]) S.1 S.2.1 dL_isSo_107 hl (by decide) rfl (fun ls hl => ?_)
  refine lv_iinc (k := 1) (lv' := [(6, .int 9), (5, .int 0), (4, .int 1), (3, .int (-1)), (2, .int (-1)), (0, .ref h), (1, .int 136)]) S.1 S.2.1 dL_isSo_109 hl rfl (by decide +kernel) (by decide) rfl (fun ls hl => ?_)
  refine lv_goto (tgt := 82) S.1 S.2.1 dL_isSo_112 (by decide) ?_
  refine lv_iload S.1 S.2.1 dL_isSo_82 (lv_at hl 0 rfl) ?_
  refine lv_bipush (v := 10) S.1 S.2.1 dL_isSo_84 (by decide) ?_
  refine lv_icmp_ge (tgt := 115) S.1 S.2.1 dL_isSo_86 (by decide) (fun c1 => absurd c1 (by decide)) (fun _ => ?_)
  refine lv_iload S.1 S.2.1 dL_isSo_89 (lv_at hl 1 rfl) ?_
  refine lv_aload_n S.1 S.2.1 dL_isSo_91 rfl (lv_at hl 5 rfl) ?_
  refine lv_iload S.1 S.2.1 dL_isSo_92 (lv_at hl 0 rfl) ?_
  refine lv_iconst (v := 0) S.1 S.2.1 dL_isSo_94 (by decide) ?_
  refine g_h5 (v := -99999999) (As := [.ref h, .int 9, .int 0]) (rest := [.int 0]) S I Z (tL_ofPrinciple l hlf sa D cI cC cZ h a b d z q 9 0) (vx_cwSW 3 S.2.2.2.2 gL_isSo_L_ofPrinciple rfl rfl rfl (by decide +kernel) ⟨Nat.le_of_ble_eq_true rfl, Nat.le_of_ble_eq_true rfl⟩) hl rfl (Nat.le_of_ble_eq_true rfl) ⟨by show _ ≤ 40; omega, by show _ ≤ 240; omega⟩ dL_isSo_95 (fun H locs I hg => ?_)
  replace hz : N + 0 ≤ H.size := by omega
  refine lv_if_lt (tgt := 105) S.1 S.2.1 dL_isSo_98 (by decide) (fun _ => ?_) (fun c1 => absurd c1 (by decide))
  refine lv_iconst (v := 0) S.1 S.2.1 dL_isSo_105 (by decide) ?_
  refine lv_iadd S.1 S.2.1 dL_isSo_106 ?_
  refine g_top (y := 0) (by decide +kernel) ?_
  refine lv_istore (lv' := [(5, .int 0), (6, .int 9), (4, .int 1), (3, .int (-1)), (2, .int (-1)), (0, .ref h), (1, .int 136)]) S.1 S.2.1 dL_isSo_107 hl (by decide) rfl (fun ls hl => ?_)
  refine lv_iinc (k := 1) (lv' := [(6, .int 10), (5, .int 0), (4, .int 1), (3, .int (-1)), (2, .int (-1)), (0, .ref h), (1, .int 136)]) S.1 S.2.1 dL_isSo_109 hl rfl (by decide +kernel) (by decide) rfl (fun ls hl => ?_)
  refine lv_goto (tgt := 82) S.1 S.2.1 dL_isSo_112 (by decide) ?_
  refine lv_iload S.1 S.2.1 dL_isSo_82 (lv_at hl 0 rfl) ?_
  refine lv_bipush (v := 10) S.1 S.2.1 dL_isSo_84 (by decide) ?_
  refine lv_icmp_ge (tgt := 115) S.1 S.2.1 dL_isSo_86 (by decide) (fun _ => ?_) (fun c1 => absurd c1 (by decide))
  refine W.widen (k := cells + 10) (n := slots + 60) (by omega) (by omega) ?_
  exact kk H locs ls I (by omega) hl
set_option maxHeartbeats 8000000 in
set_option maxRecDepth 100000 in
theorem iso_115 {p : Program} {l : Launch} {e : Env} {s : State} {m : MethodId} {args : Array Value} {below : List Frame} {meth : Method} {c : Code} {H : Heap} {locs : List Loc} {cells slots : Nat} {Q : State → Prop} {D : va_G} {A : Nat → Prop} {sa : Nat → Nat} {ls : Array Slot} {cI cC cZ : ClassId} {h : Nat} {a b d z q : Nat → Nat} (hlf : l.stackTraces = false) (S : CallFix p m c cL_isSo 11 s args wsL_isSo RL) (I : xI D A s (w5 cI cC cZ h a b d z q) (xT cI cC cZ) H locs) (Z : yZ sa A s s.heap)
    (hl : lv_has ls 11 [(6, .int 10), (5, .int 0), (4, .int 1), (3, .int (-1)), (2, .int (-1)), (0, .ref h), (1, .int 136)]) (hc : cells + 0 ≤ 40) (hs : slots + 0 ≤ 240)
    (kk : ∀ (H1 : Heap) (locs1 : List Loc) (ls1 : Array Slot), xI D A s (w5 cI cC cZ h a b d z q) (xT cI cC cZ) H1 locs1 → H.size ≤ H1.size → lv_has ls1 11 [(7, .int 0), (6, .int 0), (5, .int 0), (4, .int 1), (3, .int (-1)), (2, .int (-1)), (0, .ref h), (1, .int 136)] → W p l e (headSpec wsL_isSo rmL_isSo).room s m args below meth c H1 locs1 (cells + 0) (slots + 0) Q (F0 m 326 ls1 [])) :
    W p l e (headSpec wsL_isSo rmL_isSo).room s m args below meth c H locs cells slots Q (F0 m 115 ls []) := by
  obtain ⟨N, hN⟩ : ∃ N : Nat, N = H.size := ⟨_, rfl⟩
  have hz : N + 0 ≤ H.size := by omega
  refine lv_iconst (v := 1) S.1 S.2.1 dL_isSo_115 (by decide) ?_
  refine lv_iload S.1 S.2.1 dL_isSo_116 (lv_at hl 1 rfl) ?_
  refine lv_ishl S.1 S.2.1 dL_isSo_118 ?_
  refine g_top (y := 1) (by decide +kernel) ?_
  refine lv_iconst (v := 1) S.1 S.2.1 dL_isSo_119 (by decide) ?_
  refine lv_isub S.1 S.2.1 dL_isSo_120 ?_
  refine g_top (y := 0) (by decide +kernel) ?_
  refine lv_istore (lv' := [(6, .int 0), (5, .int 0), (4, .int 1), (3, .int (-1)), (2, .int (-1)), (0, .ref h), (1, .int 136)]) S.1 S.2.1 dL_isSo_121 hl (by decide) rfl (fun ls hl => ?_)
  refine lv_iconst (v := 0) S.1 S.2.1 dL_isSo_123 (by decide) ?_
  refine lv_istore (lv' := [(7, .int 0), (6, .int 0), (5, .int 0), (4, .int 1), (3, .int (-1)), (2, .int (-1)), (0, .ref h), (1, .int 136)]) S.1 S.2.1 dL_isSo_124 hl (by decide) rfl (fun ls hl => ?_)
  refine lv_iload S.1 S.2.1 dL_isSo_126 (lv_at hl 0 rfl) ?_
  refine lv_iload S.1 S.2.1 dL_isSo_128 (lv_at hl 2 rfl) ?_
  refine lv_icmp_ge (tgt := 323) S.1 S.2.1 dL_isSo_130 (by decide) (fun _ => ?_) (fun c1 => absurd c1 (by decide))
  refine lv_iconst (v := 0) S.1 S.2.1 dL_isSo_323 (by decide) ?_
  refine lv_istore (lv' := [(7, .int 0), (6, .int 0), (5, .int 0), (4, .int 1), (3, .int (-1)), (2, .int (-1)), (0, .ref h), (1, .int 136)]) S.1 S.2.1 dL_isSo_324 hl (by decide) rfl (fun ls hl => ?_)
  refine W.widen (k := cells + 0) (n := slots + 0) (by omega) (by omega) ?_
  exact kk H locs ls I (by omega) hl
set_option maxHeartbeats 8000000 in
set_option maxRecDepth 100000 in
theorem iso_326 {p : Program} {l : Launch} {e : Env} {s : State} {m : MethodId} {args : Array Value} {below : List Frame} {meth : Method} {c : Code} {H : Heap} {locs : List Loc} {cells slots : Nat} {Q : State → Prop} {D : va_G} {A : Nat → Prop} {sa : Nat → Nat} {ls : Array Slot} {cI cC cZ : ClassId} {h : Nat} {a b d z q : Nat → Nat} (hlf : l.stackTraces = false) (S : CallFix p m c cL_isSo 11 s args wsL_isSo RL) (I : xI D A s (w5 cI cC cZ h a b d z q) (xT cI cC cZ) H locs) (Z : yZ sa A s s.heap)
    (hl : lv_has ls 11 [(7, .int 0), (6, .int 0), (5, .int 0), (4, .int 1), (3, .int (-1)), (2, .int (-1)), (0, .ref h), (1, .int 136)]) (hc : cells + 6 ≤ 40) (hs : slots + 36 ≤ 240)
    (kk : ∀ (H1 : Heap) (locs1 : List Loc) (ls1 : Array Slot), xI D A s (w5 cI cC cZ h a b d z q) (xT cI cC cZ) H1 locs1 → H.size ≤ H1.size → lv_has ls1 11 [(7, .int 0), (4, .int 1), (6, .int 0), (5, .int 0), (3, .int (-1)), (2, .int (-1)), (0, .ref h), (1, .int 136)] → W p l e (headSpec wsL_isSo rmL_isSo).room s m args below meth c H1 locs1 (cells + 6) (slots + 36) Q (F0 m 406 ls1 [])) :
    W p l e (headSpec wsL_isSo rmL_isSo).room s m args below meth c H locs cells slots Q (F0 m 326 ls []) := by
  obtain ⟨N, hN⟩ : ∃ N : Nat, N = H.size := ⟨_, rfl⟩
  have hz : N + 0 ≤ H.size := by omega
  refine lv_iload S.1 S.2.1 dL_isSo_326 (lv_at hl 0 rfl) ?_
  refine lv_bipush (v := 6) S.1 S.2.1 dL_isSo_328 (by decide) ?_
  refine lv_icmp_ge (tgt := 403) S.1 S.2.1 dL_isSo_330 (by decide) (fun c1 => absurd c1 (by decide)) (fun _ => ?_)
  refine lv_iload S.1 S.2.1 dL_isSo_333 (lv_at hl 3 rfl) ?_
  refine lv_if_eq (tgt := 403) S.1 S.2.1 dL_isSo_335 (by decide) (fun c1 => absurd c1 (by decide)) (fun _ => ?_)
  refine lv_aload_n S.1 S.2.1 dL_isSo_338 rfl (lv_at hl 6 rfl) ?_
  refine lv_iload S.1 S.2.1 dL_isSo_339 (lv_at hl 0 rfl) ?_
  refine lv_iconst (v := 0) S.1 S.2.1 dL_isSo_341 (by decide) ?_
  refine g_h5 (v := -99999999) (As := [.ref h, .int 0, .int 0]) (rest := []) S I Z (tL_ofProblem l hlf sa D cI cC cZ h a b d z q 0 0) (vx_cwSW 3 S.2.2.2.2 gL_isSo_L_ofProblem rfl rfl rfl (by decide +kernel) ⟨Nat.le_of_ble_eq_true rfl, Nat.le_of_ble_eq_true rfl⟩) hl rfl (Nat.le_of_ble_eq_true rfl) ⟨by show _ ≤ 40; omega, by show _ ≤ 240; omega⟩ dL_isSo_342 (fun H locs I hg => ?_)
  replace hz : N + 0 ≤ H.size := by omega
  refine lv_if_lt (tgt := 390) S.1 S.2.1 dL_isSo_345 (by decide) (fun _ => ?_) (fun c1 => absurd c1 (by decide))
  refine lv_iconst (v := 1) S.1 S.2.1 dL_isSo_390 (by decide) ?_
  refine lv_goto (tgt := 395) S.1 S.2.1 dL_isSo_391 (by decide) ?_
  refine lv_istore (lv' := [(4, .int 1), (7, .int 0), (6, .int 0), (5, .int 0), (3, .int (-1)), (2, .int (-1)), (0, .ref h), (1, .int 136)]) S.1 S.2.1 dL_isSo_395 hl (by decide) rfl (fun ls hl => ?_)
  refine lv_iinc (k := 1) (lv' := [(7, .int 1), (4, .int 1), (6, .int 0), (5, .int 0), (3, .int (-1)), (2, .int (-1)), (0, .ref h), (1, .int 136)]) S.1 S.2.1 dL_isSo_397 hl rfl (by decide +kernel) (by decide) rfl (fun ls hl => ?_)
  refine lv_goto (tgt := 326) S.1 S.2.1 dL_isSo_400 (by decide) ?_
  refine lv_iload S.1 S.2.1 dL_isSo_326 (lv_at hl 0 rfl) ?_
  refine lv_bipush (v := 6) S.1 S.2.1 dL_isSo_328 (by decide) ?_
  refine lv_icmp_ge (tgt := 403) S.1 S.2.1 dL_isSo_330 (by decide) (fun c1 => absurd c1 (by decide)) (fun _ => ?_)
  refine lv_iload S.1 S.2.1 dL_isSo_333 (lv_at hl 1 rfl) ?_
  refine lv_if_eq (tgt := 403) S.1 S.2.1 dL_isSo_335 (by decide) (fun c1 => absurd c1 (by decide)) (fun _ => ?_)
  refine lv_aload_n S.1 S.2.1 dL_isSo_338 rfl (lv_at hl 6 rfl) ?_
  refine lv_iload S.1 S.2.1 dL_isSo_339 (lv_at hl 0 rfl) ?_
  refine lv_iconst (v := 0) S.1 S.2.1 dL_isSo_341 (by decide) ?_
  refine g_h5 (v := -99999999) (As := [.ref h, .int 1, .int 0]) (rest := []) S I Z (tL_ofProblem l hlf sa D cI cC cZ h a b d z q 1 0) (vx_cwSW 3 S.2.2.2.2 gL_isSo_L_ofProblem rfl rfl rfl (by decide +kernel) ⟨Nat.le_of_ble_eq_true rfl, Nat.le_of_ble_eq_true rfl⟩) hl rfl (Nat.le_of_ble_eq_true rfl) ⟨by show _ ≤ 40; omega, by show _ ≤ 240; omega⟩ dL_isSo_342 (fun H locs I hg => ?_)
  replace hz : N + 0 ≤ H.size := by omega
  refine lv_if_lt (tgt := 390) S.1 S.2.1 dL_isSo_345 (by decide) (fun _ => ?_) (fun c1 => absurd c1 (by decide))
  refine lv_iconst (v := 1) S.1 S.2.1 dL_isSo_390 (by decide) ?_
  refine lv_goto (tgt := 395) S.1 S.2.1 dL_isSo_391 (by decide) ?_
  refine lv_istore (lv' := [(4, .int 1), (7, .int 1), (6, .int 0), (5, .int 0), (3, .int (-1)), (2, .int (-1)), (0, .ref h), (1, .int 136)]) S.1 S.2.1 dL_isSo_395 hl (by decide) rfl (fun ls hl => ?_)
  refine lv_iinc (k := 1) (lv' := [(7, .int 2), (4, .int 1), (6, .int 0), (5, .int 0), (3, .int (-1)), (2, .int (-1)), (0, .ref h), (1, .int 136)]) S.1 S.2.1 dL_isSo_397 hl rfl (by decide +kernel) (by decide) rfl (fun ls hl => ?_)
  refine lv_goto (tgt := 326) S.1 S.2.1 dL_isSo_400 (by decide) ?_
  refine lv_iload S.1 S.2.1 dL_isSo_326 (lv_at hl 0 rfl) ?_
  refine lv_bipush (v := 6) S.1 S.2.1 dL_isSo_328 (by decide) ?_
  refine lv_icmp_ge (tgt := 403) S.1 S.2.1 dL_isSo_330 (by decide) (fun c1 => absurd c1 (by decide)) (fun _ => ?_)
  refine lv_iload S.1 S.2.1 dL_isSo_333 (lv_at hl 1 rfl) ?_
  refine lv_if_eq (tgt := 403) S.1 S.2.1 dL_isSo_335 (by decide) (fun c1 => absurd c1 (by decide)) (fun _ => ?_)
  refine lv_aload_n S.1 S.2.1 dL_isSo_338 rfl (lv_at hl 6 rfl) ?_
  refine lv_iload S.1 S.2.1 dL_isSo_339 (lv_at hl 0 rfl) ?_
  refine lv_iconst (v := 0) S.1 S.2.1 dL_isSo_341 (by decide) ?_
  refine g_h5 (v := -99999999) (As := [.ref h, .int 2, .int 0]) (rest := []) S I Z (tL_ofProblem l hlf sa D cI cC cZ h a b d z q 2 0) (vx_cwSW 3 S.2.2.2.2 gL_isSo_L_ofProblem rfl rfl rfl (by decide +kernel) ⟨Nat.le_of_ble_eq_true rfl, Nat.le_of_ble_eq_true rfl⟩) hl rfl (Nat.le_of_ble_eq_true rfl) ⟨by show _ ≤ 40; omega, by show _ ≤ 240; omega⟩ dL_isSo_342 (fun H locs I hg => ?_)
  replace hz : N + 0 ≤ H.size := by omega
  refine lv_if_lt (tgt := 390) S.1 S.2.1 dL_isSo_345 (by decide) (fun _ => ?_) (fun c1 => absurd c1 (by decide))
  refine lv_iconst (v := 1) S.1 S.2.1 dL_isSo_390 (by decide) ?_
  refine lv_goto (tgt := 395) S.1 S.2.1 dL_isSo_391 (by decide) ?_
  refine lv_istore (lv' := [(4, .int 1), (7, .int 2), (6, .int 0), (5, .int 0), (3, .int (-1)), (2, .int (-1)), (0, .ref h), (1, .int 136)]) S.1 S.2.1 dL_isSo_395 hl (by decide) rfl (fun ls hl => ?_)
  refine lv_iinc (k := 1) (lv' := [(7, .int 3), (4, .int 1), (6, .int 0), (5, .int 0), (3, .int (-1)), (2, .int (-1)), (0, .ref h), (1, .int 136)]) S.1 S.2.1 dL_isSo_397 hl rfl (by decide +kernel) (by decide) rfl (fun ls hl => ?_)
  refine lv_goto (tgt := 326) S.1 S.2.1 dL_isSo_400 (by decide) ?_
  refine lv_iload S.1 S.2.1 dL_isSo_326 (lv_at hl 0 rfl) ?_
  refine lv_bipush (v := 6) S.1 S.2.1 dL_isSo_328 (by decide) ?_
  refine lv_icmp_ge (tgt := 403) S.1 S.2.1 dL_isSo_330 (by decide) (fun c1 => absurd c1 (by decide)) (fun _ => ?_)
  refine lv_iload S.1 S.2.1 dL_isSo_333 (lv_at hl 1 rfl) ?_
  refine lv_if_eq (tgt := 403) S.1 S.2.1 dL_isSo_335 (by decide) (fun c1 => absurd c1 (by decide)) (fun _ => ?_)
  refine lv_aload_n S.1 S.2.1 dL_isSo_338 rfl (lv_at hl 6 rfl) ?_
  refine lv_iload S.1 S.2.1 dL_isSo_339 (lv_at hl 0 rfl) ?_
  refine lv_iconst (v := 0) S.1 S.2.1 dL_isSo_341 (by decide) ?_
  refine g_h5 (v := -99999999) (As := [.ref h, .int 3, .int 0]) (rest := []) S I Z (tL_ofProblem l hlf sa D cI cC cZ h a b d z q 3 0) (vx_cwSW 3 S.2.2.2.2 gL_isSo_L_ofProblem rfl rfl rfl (by decide +kernel) ⟨Nat.le_of_ble_eq_true rfl, Nat.le_of_ble_eq_true rfl⟩) hl rfl (Nat.le_of_ble_eq_true rfl) ⟨by show _ ≤ 40; omega, by show _ ≤ 240; omega⟩ dL_isSo_342 (fun H locs I hg => ?_)
  replace hz : N + 0 ≤ H.size := by omega
  refine lv_if_lt (tgt := 390) S.1 S.2.1 dL_isSo_345 (by decide) (fun _ => ?_) (fun c1 => absurd c1 (by decide))
  refine lv_iconst (v := 1) S.1 S.2.1 dL_isSo_390 (by decide) ?_
  refine lv_goto (tgt := 395) S.1 S.2.1 dL_isSo_391 (by decide) ?_
  refine lv_istore (lv' := [(4, .int 1), (7, .int 3), (6, .int 0), (5, .int 0), (3, .int (-1)), (2, .int (-1)), (0, .ref h), (1, .int 136)]) S.1 S.2.1 dL_isSo_395 hl (by decide) rfl (fun ls hl => ?_)
  refine lv_iinc (k := 1) (lv' := [(7, .int 4), (4, .int 1), (6, .int 0), (5, .int 0), (3, .int (-1)), (2, .int (-1)), (0, .ref h), (1, .int 136)]) S.1 S.2.1 dL_isSo_397 hl rfl (by decide +kernel) (by decide) rfl (fun ls hl => ?_)
  refine lv_goto (tgt := 326) S.1 S.2.1 dL_isSo_400 (by decide) ?_
  refine lv_iload S.1 S.2.1 dL_isSo_326 (lv_at hl 0 rfl) ?_
  refine lv_bipush (v := 6) S.1 S.2.1 dL_isSo_328 (by decide) ?_
  refine lv_icmp_ge (tgt := 403) S.1 S.2.1 dL_isSo_330 (by decide) (fun c1 => absurd c1 (by decide)) (fun _ => ?_)
  refine lv_iload S.1 S.2.1 dL_isSo_333 (lv_at hl 1 rfl) ?_
  refine lv_if_eq (tgt := 403) S.1 S.2.1 dL_isSo_335 (by decide) (fun c1 => absurd c1 (by decide)) (fun _ => ?_)
  refine lv_aload_n S.1 S.2.1 dL_isSo_338 rfl (lv_at hl 6 rfl) ?_
  refine lv_iload S.1 S.2.1 dL_isSo_339 (lv_at hl 0 rfl) ?_
  refine lv_iconst (v := 0) S.1 S.2.1 dL_isSo_341 (by decide) ?_
  refine g_h5 (v := -99999999) (As := [.ref h, .int 4, .int 0]) (rest := []) S I Z (tL_ofProblem l hlf sa D cI cC cZ h a b d z q 4 0) (vx_cwSW 3 S.2.2.2.2 gL_isSo_L_ofProblem rfl rfl rfl (by decide +kernel) ⟨Nat.le_of_ble_eq_true rfl, Nat.le_of_ble_eq_true rfl⟩) hl rfl (Nat.le_of_ble_eq_true rfl) ⟨by show _ ≤ 40; omega, by show _ ≤ 240; omega⟩ dL_isSo_342 (fun H locs I hg => ?_)
  replace hz : N + 0 ≤ H.size := by omega
  refine lv_if_lt (tgt := 390) S.1 S.2.1 dL_isSo_345 (by decide) (fun _ => ?_) (fun c1 => absurd c1 (by decide))
  refine lv_iconst (v := 1) S.1 S.2.1 dL_isSo_390 (by decide) ?_
  refine lv_goto (tgt := 395) S.1 S.2.1 dL_isSo_391 (by decide) ?_
  refine lv_istore (lv' := [(4, .int 1), (7, .int 4), (6, .int 0), (5, .int 0), (3, .int (-1)), (2, .int (-1)), (0, .ref h), (1, .int 136)]) S.1 S.2.1 dL_isSo_395 hl (by decide) rfl (fun ls hl => ?_)
  refine lv_iinc (k := 1) (lv' := [(7, .int 5), (4, .int 1), (6, .int 0), (5, .int 0), (3, .int (-1)), (2, .int (-1)), (0, .ref h), (1, .int 136)]) S.1 S.2.1 dL_isSo_397 hl rfl (by decide +kernel) (by decide) rfl (fun ls hl => ?_)
  refine lv_goto (tgt := 326) S.1 S.2.1 dL_isSo_400 (by decide) ?_
  refine lv_iload S.1 S.2.1 dL_isSo_326 (lv_at hl 0 rfl) ?_
  refine lv_bipush (v := 6) S.1 S.2.1 dL_isSo_328 (by decide) ?_
  refine lv_icmp_ge (tgt := 403) S.1 S.2.1 dL_isSo_330 (by decide) (fun c1 => absurd c1 (by decide)) (fun _ => ?_)
  refine lv_iload S.1 S.2.1 dL_isSo_333 (lv_at hl 1 rfl) ?_
  refine lv_if_eq (tgt := 403) S.1 S.2.1 dL_isSo_335 (by decide) (fun c1 => absurd c1 (by decide)) (fun _ => ?_)
  refine lv_aload_n S.1 S.2.1 dL_isSo_338 rfl (lv_at hl 6 rfl) ?_
  refine lv_iload S.1 S.2.1 dL_isSo_339 (lv_at hl 0 rfl) ?_
  refine lv_iconst (v := 0) S.1 S.2.1 dL_isSo_341 (by decide) ?_
  refine g_h5 (v := -99999999) (As := [.ref h, .int 5, .int 0]) (rest := []) S I Z (tL_ofProblem l hlf sa D cI cC cZ h a b d z q 5 0) (vx_cwSW 3 S.2.2.2.2 gL_isSo_L_ofProblem rfl rfl rfl (by decide +kernel) ⟨Nat.le_of_ble_eq_true rfl, Nat.le_of_ble_eq_true rfl⟩) hl rfl (Nat.le_of_ble_eq_true rfl) ⟨by show _ ≤ 40; omega, by show _ ≤ 240; omega⟩ dL_isSo_342 (fun H locs I hg => ?_)
  replace hz : N + 0 ≤ H.size := by omega
  refine lv_if_lt (tgt := 390) S.1 S.2.1 dL_isSo_345 (by decide) (fun _ => ?_) (fun c1 => absurd c1 (by decide))
  refine lv_iconst (v := 1) S.1 S.2.1 dL_isSo_390 (by decide) ?_
  refine lv_goto (tgt := 395) S.1 S.2.1 dL_isSo_391 (by decide) ?_
  refine lv_istore (lv' := [(4, .int 1), (7, .int 5), (6, .int 0), (5, .int 0), (3, .int (-1)), (2, .int (-1)), (0, .ref h), (1, .int 136)]) S.1 S.2.1 dL_isSo_395 hl (by decide) rfl (fun ls hl => ?_)
  refine lv_iinc (k := 1) (lv' := [(7, .int 6), (4, .int 1), (6, .int 0), (5, .int 0), (3, .int (-1)), (2, .int (-1)), (0, .ref h), (1, .int 136)]) S.1 S.2.1 dL_isSo_397 hl rfl (by decide +kernel) (by decide) rfl (fun ls hl => ?_)
  refine lv_goto (tgt := 326) S.1 S.2.1 dL_isSo_400 (by decide) ?_
  refine lv_iload S.1 S.2.1 dL_isSo_326 (lv_at hl 0 rfl) ?_
  refine lv_bipush (v := 6) S.1 S.2.1 dL_isSo_328 (by decide) ?_
  refine lv_icmp_ge (tgt := 403) S.1 S.2.1 dL_isSo_330 (by decide) (fun _ => ?_) (fun c1 => absurd c1 (by decide))
  refine lv_iconst (v := 0) S.1 S.2.1 dL_isSo_403 (by decide) ?_
  refine lv_istore (lv' := [(7, .int 0), (4, .int 1), (6, .int 0), (5, .int 0), (3, .int (-1)), (2, .int (-1)), (0, .ref h), (1, .int 136)]) S.1 S.2.1 dL_isSo_404 hl (by decide) rfl (fun ls hl => ?_)
  refine W.widen (k := cells + 6) (n := slots + 36) (by omega) (by omega) ?_
  exact kk H locs ls I (by omega) hl
set_option maxHeartbeats 8000000 in
set_option maxRecDepth 100000 in
theorem iso_406 {p : Program} {l : Launch} {e : Env} {s : State} {m : MethodId} {args : Array Value} {below : List Frame} {meth : Method} {c : Code} {H : Heap} {locs : List Loc} {cells slots : Nat} {Q : State → Prop} {D : va_G} {A : Nat → Prop} {sa : Nat → Nat} {ls : Array Slot} {cI cC cZ : ClassId} {h : Nat} {a b d z q : Nat → Nat} (hlf : l.stackTraces = false) (S : CallFix p m c cL_isSo 11 s args wsL_isSo RL) (I : xI D A s (w5 cI cC cZ h a b d z q) (xT cI cC cZ) H locs) (Z : yZ sa A s s.heap)
    (hl : lv_has ls 11 [(7, .int 0), (4, .int 1), (6, .int 0), (5, .int 0), (3, .int (-1)), (2, .int (-1)), (0, .ref h), (1, .int 136)]) (hc : cells + 21 ≤ 40) (hs : slots + 126 ≤ 240)
    (kk : ∀ (H1 : Heap) (locs1 : List Loc) (ls1 : Array Slot), xI D A s (w5 cI cC cZ h a b d z q) (xT cI cC cZ) H1 locs1 → H.size ≤ H1.size → lv_has ls1 11 [(7, .int 6), (4, .int 1), (8, .int 65), (6, .int 0), (5, .int 0), (3, .int (-1)), (2, .int (-1)), (0, .ref h), (1, .int 136)] → W p l e (headSpec wsL_isSo rmL_isSo).room s m args below meth c H1 locs1 (cells + 21) (slots + 126) Q (F0 m 492 ls1 [])) :
    W p l e (headSpec wsL_isSo rmL_isSo).room s m args below meth c H locs cells slots Q (F0 m 406 ls []) := by
  obtain ⟨N, hN⟩ : ∃ N : Nat, N = H.size := ⟨_, rfl⟩
  have hz : N + 0 ≤ H.size := by omega
  refine lv_iload S.1 S.2.1 dL_isSo_406 (lv_at hl 0 rfl) ?_
  refine lv_bipush (v := 6) S.1 S.2.1 dL_isSo_408 (by decide) ?_
  refine lv_icmp_ge (tgt := 492) S.1 S.2.1 dL_isSo_410 (by decide) (fun c1 => absurd c1 (by decide)) (fun _ => ?_)
  refine lv_iload S.1 S.2.1 dL_isSo_413 (lv_at hl 1 rfl) ?_
  refine lv_if_eq (tgt := 492) S.1 S.2.1 dL_isSo_415 (by decide) (fun c1 => absurd c1 (by decide)) (fun _ => ?_)
  refine lv_iload_n S.1 S.2.1 dL_isSo_418 rfl (lv_at hl 7 rfl) ?_
  refine lv_bipush (v := 37) S.1 S.2.1 dL_isSo_419 (by decide) ?_
  refine lv_iload S.1 S.2.1 dL_isSo_421 (lv_at hl 0 rfl) ?_
  refine lv_imul S.1 S.2.1 dL_isSo_423 ?_
  refine g_top (y := 0) (by decide +kernel) ?_
  refine lv_iadd S.1 S.2.1 dL_isSo_424 ?_
  refine g_top (y := 136) (by decide +kernel) ?_
  refine lv_sipush (v := 256) S.1 S.2.1 dL_isSo_425 (by decide) ?_
  refine g_low5 (v := g_lo 136 256) (As := [.int 136, .int 256]) (rest := []) S I Z (tL_low l sa D cI cC cZ 136 256 (by decide)) (va_cwS 2 S.2.2.2.2 gL_isSo_L_low rfl rfl rfl (by decide +kernel) ⟨Nat.le_of_ble_eq_true rfl, Nat.le_of_ble_eq_true rfl⟩) hl rfl (Nat.le_of_ble_eq_true rfl) ⟨by show _ ≤ 40; omega, by show _ ≤ 240; omega⟩ dL_isSo_428 (fun H locs I hg => ?_)
  replace hz : N + 0 ≤ H.size := by omega
  refine g_top (y := 136) (by decide +kernel) ?_
  refine lv_istore (lv' := [(8, .int 136), (7, .int 0), (4, .int 1), (6, .int 0), (5, .int 0), (3, .int (-1)), (2, .int (-1)), (0, .ref h), (1, .int 136)]) S.1 S.2.1 dL_isSo_431 hl (by decide) rfl (fun ls hl => ?_)
  refine lv_aload_n S.1 S.2.1 dL_isSo_433 rfl (lv_at hl 7 rfl) ?_
  refine lv_iconst (v := 3) S.1 S.2.1 dL_isSo_434 (by decide) ?_
  refine lv_iload S.1 S.2.1 dL_isSo_435 (lv_at hl 0 rfl) ?_
  refine g_y5 (v := 0) (As := [.int 3, .int 136]) (rest := []) S I Z (tX5_has l hlf sa D cI cC cZ h a b d z q xFp0 xG0 xF0 xG0 xF0 xG0 xF0 xG0 3 136 (0, 0) g_has136) rfl rfl rfl (cwV 2 S.2.2.2.2 gL_isSo_X5_has rfl rfl rfl (by decide +kernel) ⟨Nat.le_of_ble_eq_true rfl, Nat.le_of_ble_eq_true rfl⟩) hl rfl (Nat.le_of_ble_eq_true rfl) ⟨by show _ ≤ 40; omega, by show _ ≤ 240; omega⟩ dL_isSo_437 (fun H locs I hg => ?_)
  replace hz : N + 0 ≤ H.size := by omega
  refine lv_aload_n S.1 S.2.1 dL_isSo_440 rfl (lv_at hl 7 rfl) ?_
  refine lv_iconst (v := 3) S.1 S.2.1 dL_isSo_441 (by decide) ?_
  refine lv_iload S.1 S.2.1 dL_isSo_442 (lv_at hl 0 rfl) ?_
  refine g_y5 (v := 0) (As := [.int 3, .int 136]) (rest := [.int 0]) S I Z (tX5_hasAnew l hlf sa D cI cC cZ h a b d z q xFp0 xG0 xF0 xG0 xF0 xG0 xF0 xG0 3 136 (0, 0) g_hasAnew136) rfl rfl rfl (cwV 2 S.2.2.2.2 gL_isSo_X5_hasAnew rfl rfl rfl (by decide +kernel) ⟨Nat.le_of_ble_eq_true rfl, Nat.le_of_ble_eq_true rfl⟩) hl rfl (Nat.le_of_ble_eq_true rfl) ⟨by show _ ≤ 40; omega, by show _ ≤ 240; omega⟩ dL_isSo_444 (fun H locs I hg => ?_)
  replace hz : N + 0 ≤ H.size := by omega
  refine lv_icmp_ne (tgt := 483) S.1 S.2.1 dL_isSo_447 (by decide) (fun c1 => absurd c1 (by decide)) (fun _ => ?_)
  refine lv_aload_n S.1 S.2.1 dL_isSo_450 rfl (lv_at hl 7 rfl) ?_
  refine lv_iconst (v := 3) S.1 S.2.1 dL_isSo_451 (by decide) ?_
  refine lv_iload S.1 S.2.1 dL_isSo_452 (lv_at hl 0 rfl) ?_
  refine g_y5 (v := 0) (As := [.int 3, .int 136]) (rest := []) S I Z (tX5_has l hlf sa D cI cC cZ h a b d z q xFp0 xG0 xF0 xG0 xF0 xG0 xF0 xG0 3 136 (0, 0) g_has136) rfl rfl rfl (cwV 2 S.2.2.2.2 gL_isSo_X5_has rfl rfl rfl (by decide +kernel) ⟨Nat.le_of_ble_eq_true rfl, Nat.le_of_ble_eq_true rfl⟩) hl rfl (Nat.le_of_ble_eq_true rfl) ⟨by show _ ≤ 40; omega, by show _ ≤ 240; omega⟩ dL_isSo_454 (fun H locs I hg => ?_)
  replace hz : N + 0 ≤ H.size := by omega
  refine lv_if_eq (tgt := 479) S.1 S.2.1 dL_isSo_457 (by decide) (fun _ => ?_) (fun c1 => absurd c1 (by decide))
  refine lv_iconst (v := 1) S.1 S.2.1 dL_isSo_479 (by decide) ?_
  refine lv_goto (tgt := 484) S.1 S.2.1 dL_isSo_480 (by decide) ?_
  refine lv_istore (lv' := [(4, .int 1), (8, .int 136), (7, .int 0), (6, .int 0), (5, .int 0), (3, .int (-1)), (2, .int (-1)), (0, .ref h), (1, .int 136)]) S.1 S.2.1 dL_isSo_484 hl (by decide) rfl (fun ls hl => ?_)
  refine lv_iinc (k := 2) (lv' := [(7, .int 1), (4, .int 1), (8, .int 136), (6, .int 0), (5, .int 0), (3, .int (-1)), (2, .int (-1)), (0, .ref h), (1, .int 136)]) S.1 S.2.1 dL_isSo_486 hl rfl (by decide +kernel) (by decide) rfl (fun ls hl => ?_)
  refine lv_goto (tgt := 406) S.1 S.2.1 dL_isSo_489 (by decide) ?_
  refine lv_iload S.1 S.2.1 dL_isSo_406 (lv_at hl 0 rfl) ?_
  refine lv_bipush (v := 6) S.1 S.2.1 dL_isSo_408 (by decide) ?_
  refine lv_icmp_ge (tgt := 492) S.1 S.2.1 dL_isSo_410 (by decide) (fun c1 => absurd c1 (by decide)) (fun _ => ?_)
  refine lv_iload S.1 S.2.1 dL_isSo_413 (lv_at hl 1 rfl) ?_
  refine lv_if_eq (tgt := 492) S.1 S.2.1 dL_isSo_415 (by decide) (fun c1 => absurd c1 (by decide)) (fun _ => ?_)
  refine lv_iload_n S.1 S.2.1 dL_isSo_418 rfl (lv_at hl 8 rfl) ?_
  refine lv_bipush (v := 37) S.1 S.2.1 dL_isSo_419 (by decide) ?_
  refine lv_iload S.1 S.2.1 dL_isSo_421 (lv_at hl 0 rfl) ?_
  refine lv_imul S.1 S.2.1 dL_isSo_423 ?_
  refine g_top (y := 37) (by decide +kernel) ?_
  refine lv_iadd S.1 S.2.1 dL_isSo_424 ?_
  refine g_top (y := 173) (by decide +kernel) ?_
  refine lv_sipush (v := 256) S.1 S.2.1 dL_isSo_425 (by decide) ?_
  refine g_low5 (v := g_lo 173 256) (As := [.int 173, .int 256]) (rest := []) S I Z (tL_low l sa D cI cC cZ 173 256 (by decide)) (va_cwS 2 S.2.2.2.2 gL_isSo_L_low rfl rfl rfl (by decide +kernel) ⟨Nat.le_of_ble_eq_true rfl, Nat.le_of_ble_eq_true rfl⟩) hl rfl (Nat.le_of_ble_eq_true rfl) ⟨by show _ ≤ 40; omega, by show _ ≤ 240; omega⟩ dL_isSo_428 (fun H locs I hg => ?_)
  replace hz : N + 0 ≤ H.size := by omega
  refine g_top (y := 173) (by decide +kernel) ?_
  refine lv_istore (lv' := [(8, .int 173), (7, .int 1), (4, .int 1), (6, .int 0), (5, .int 0), (3, .int (-1)), (2, .int (-1)), (0, .ref h), (1, .int 136)]) S.1 S.2.1 dL_isSo_431 hl (by decide) rfl (fun ls hl => ?_)
  refine lv_aload_n S.1 S.2.1 dL_isSo_433 rfl (lv_at hl 7 rfl) ?_
  refine lv_iconst (v := 3) S.1 S.2.1 dL_isSo_434 (by decide) ?_
  refine lv_iload S.1 S.2.1 dL_isSo_435 (lv_at hl 0 rfl) ?_
  refine g_y5 (v := 1) (As := [.int 3, .int 173]) (rest := []) S I Z (tX5_has l hlf sa D cI cC cZ h a b d z q xFp0 xG0 xF0 xG0 xF0 xG0 xF0 xG0 3 173 (0, 1) g_has173) rfl rfl rfl (cwV 2 S.2.2.2.2 gL_isSo_X5_has rfl rfl rfl (by decide +kernel) ⟨Nat.le_of_ble_eq_true rfl, Nat.le_of_ble_eq_true rfl⟩) hl rfl (Nat.le_of_ble_eq_true rfl) ⟨by show _ ≤ 40; omega, by show _ ≤ 240; omega⟩ dL_isSo_437 (fun H locs I hg => ?_)
  replace hz : N + 0 ≤ H.size := by omega
  refine lv_aload_n S.1 S.2.1 dL_isSo_440 rfl (lv_at hl 7 rfl) ?_
  refine lv_iconst (v := 3) S.1 S.2.1 dL_isSo_441 (by decide) ?_
  refine lv_iload S.1 S.2.1 dL_isSo_442 (lv_at hl 0 rfl) ?_
  refine g_y5 (v := 1) (As := [.int 3, .int 173]) (rest := [.int 1]) S I Z (tX5_hasAnew l hlf sa D cI cC cZ h a b d z q xFp0 xG0 xF0 xG0 xF0 xG0 xF0 xG0 3 173 (0, 1) g_hasAnew173) rfl rfl rfl (cwV 2 S.2.2.2.2 gL_isSo_X5_hasAnew rfl rfl rfl (by decide +kernel) ⟨Nat.le_of_ble_eq_true rfl, Nat.le_of_ble_eq_true rfl⟩) hl rfl (Nat.le_of_ble_eq_true rfl) ⟨by show _ ≤ 40; omega, by show _ ≤ 240; omega⟩ dL_isSo_444 (fun H locs I hg => ?_)
  replace hz : N + 0 ≤ H.size := by omega
  refine lv_icmp_ne (tgt := 483) S.1 S.2.1 dL_isSo_447 (by decide) (fun c1 => absurd c1 (by decide)) (fun _ => ?_)
  refine lv_aload_n S.1 S.2.1 dL_isSo_450 rfl (lv_at hl 7 rfl) ?_
  refine lv_iconst (v := 3) S.1 S.2.1 dL_isSo_451 (by decide) ?_
  refine lv_iload S.1 S.2.1 dL_isSo_452 (lv_at hl 0 rfl) ?_
  refine g_y5 (v := 1) (As := [.int 3, .int 173]) (rest := []) S I Z (tX5_has l hlf sa D cI cC cZ h a b d z q xFp0 xG0 xF0 xG0 xF0 xG0 xF0 xG0 3 173 (0, 1) g_has173) rfl rfl rfl (cwV 2 S.2.2.2.2 gL_isSo_X5_has rfl rfl rfl (by decide +kernel) ⟨Nat.le_of_ble_eq_true rfl, Nat.le_of_ble_eq_true rfl⟩) hl rfl (Nat.le_of_ble_eq_true rfl) ⟨by show _ ≤ 40; omega, by show _ ≤ 240; omega⟩ dL_isSo_454 (fun H locs I hg => ?_)
  replace hz : N + 0 ≤ H.size := by omega
  refine lv_if_eq (tgt := 479) S.1 S.2.1 dL_isSo_457 (by decide) (fun c1 => absurd c1 (by decide)) (fun _ => ?_)
  refine lv_aload_n S.1 S.2.1 dL_isSo_460 rfl (lv_at hl 7 rfl) ?_
  refine lv_iconst (v := 3) S.1 S.2.1 dL_isSo_461 (by decide) ?_
  refine lv_iload S.1 S.2.1 dL_isSo_462 (lv_at hl 0 rfl) ?_
  refine lv_iconst (v := 1) S.1 S.2.1 dL_isSo_464 (by decide) ?_
  refine lv_iload_n S.1 S.2.1 dL_isSo_465 rfl (lv_at hl 8 rfl) ?_
  refine lv_bipush (v := 8) S.1 S.2.1 dL_isSo_466 (by decide) ?_
  refine g_low5 (v := g_lo 136 8) (As := [.int 136, .int 8]) (rest := [.int 1, .int 173, .int 3, .ref h]) S I Z (tL_low l sa D cI cC cZ 136 8 (by decide)) (va_cwS 2 S.2.2.2.2 gL_isSo_L_low rfl rfl rfl (by decide +kernel) ⟨Nat.le_of_ble_eq_true rfl, Nat.le_of_ble_eq_true rfl⟩) hl rfl (Nat.le_of_ble_eq_true rfl) ⟨by show _ ≤ 40; omega, by show _ ≤ 240; omega⟩ dL_isSo_468 (fun H locs I hg => ?_)
  replace hz : N + 0 ≤ H.size := by omega
  refine g_top (y := 0) (by decide +kernel) ?_
  refine lv_ishl S.1 S.2.1 dL_isSo_471 ?_
  refine g_top (y := 1) (by decide +kernel) ?_
  refine lv_ior S.1 S.2.1 dL_isSo_472 ?_
  refine g_top (y := 173) (by decide +kernel) ?_
  refine g_y5 (v := 1) (As := [.int 3, .int 173]) (rest := []) S I Z (tX5_has l hlf sa D cI cC cZ h a b d z q xFp0 xG0 xF0 xG0 xF0 xG0 xF0 xG0 3 173 (0, 1) g_has173) rfl rfl rfl (cwV 2 S.2.2.2.2 gL_isSo_X5_has rfl rfl rfl (by decide +kernel) ⟨Nat.le_of_ble_eq_true rfl, Nat.le_of_ble_eq_true rfl⟩) hl rfl (Nat.le_of_ble_eq_true rfl) ⟨by show _ ≤ 40; omega, by show _ ≤ 240; omega⟩ dL_isSo_473 (fun H locs I hg => ?_)
  replace hz : N + 0 ≤ H.size := by omega
  refine lv_if_eq (tgt := 483) S.1 S.2.1 dL_isSo_476 (by decide) (fun c1 => absurd c1 (by decide)) (fun _ => ?_)
  refine lv_iconst (v := 1) S.1 S.2.1 dL_isSo_479 (by decide) ?_
  refine lv_goto (tgt := 484) S.1 S.2.1 dL_isSo_480 (by decide) ?_
  refine lv_istore (lv' := [(4, .int 1), (8, .int 173), (7, .int 1), (6, .int 0), (5, .int 0), (3, .int (-1)), (2, .int (-1)), (0, .ref h), (1, .int 136)]) S.1 S.2.1 dL_isSo_484 hl (by decide) rfl (fun ls hl => ?_)
  refine lv_iinc (k := 2) (lv' := [(7, .int 2), (4, .int 1), (8, .int 173), (6, .int 0), (5, .int 0), (3, .int (-1)), (2, .int (-1)), (0, .ref h), (1, .int 136)]) S.1 S.2.1 dL_isSo_486 hl rfl (by decide +kernel) (by decide) rfl (fun ls hl => ?_)
  refine lv_goto (tgt := 406) S.1 S.2.1 dL_isSo_489 (by decide) ?_
  refine lv_iload S.1 S.2.1 dL_isSo_406 (lv_at hl 0 rfl) ?_
  refine lv_bipush (v := 6) S.1 S.2.1 dL_isSo_408 (by decide) ?_
  refine lv_icmp_ge (tgt := 492) S.1 S.2.1 dL_isSo_410 (by decide) (fun c1 => absurd c1 (by decide)) (fun _ => ?_)
  refine lv_iload S.1 S.2.1 dL_isSo_413 (lv_at hl 1 rfl) ?_
  refine lv_if_eq (tgt := 492) S.1 S.2.1 dL_isSo_415 (by decide) (fun c1 => absurd c1 (by decide)) (fun _ => ?_)
  refine lv_iload_n S.1 S.2.1 dL_isSo_418 rfl (lv_at hl 8 rfl) ?_
  refine lv_bipush (v := 37) S.1 S.2.1 dL_isSo_419 (by decide) ?_
  refine lv_iload S.1 S.2.1 dL_isSo_421 (lv_at hl 0 rfl) ?_
  refine lv_imul S.1 S.2.1 dL_isSo_423 ?_
  refine g_top (y := 74) (by decide +kernel) ?_
  refine lv_iadd S.1 S.2.1 dL_isSo_424 ?_
  refine g_top (y := 210) (by decide +kernel) ?_
  refine lv_sipush (v := 256) S.1 S.2.1 dL_isSo_425 (by decide) ?_
  refine g_low5 (v := g_lo 210 256) (As := [.int 210, .int 256]) (rest := []) S I Z (tL_low l sa D cI cC cZ 210 256 (by decide)) (va_cwS 2 S.2.2.2.2 gL_isSo_L_low rfl rfl rfl (by decide +kernel) ⟨Nat.le_of_ble_eq_true rfl, Nat.le_of_ble_eq_true rfl⟩) hl rfl (Nat.le_of_ble_eq_true rfl) ⟨by show _ ≤ 40; omega, by show _ ≤ 240; omega⟩ dL_isSo_428 (fun H locs I hg => ?_)
  replace hz : N + 0 ≤ H.size := by omega
  refine g_top (y := 210) (by decide +kernel) ?_
  refine lv_istore (lv' := [(8, .int 210), (7, .int 2), (4, .int 1), (6, .int 0), (5, .int 0), (3, .int (-1)), (2, .int (-1)), (0, .ref h), (1, .int 136)]) S.1 S.2.1 dL_isSo_431 hl (by decide) rfl (fun ls hl => ?_)
  refine lv_aload_n S.1 S.2.1 dL_isSo_433 rfl (lv_at hl 7 rfl) ?_
  refine lv_iconst (v := 3) S.1 S.2.1 dL_isSo_434 (by decide) ?_
  refine lv_iload S.1 S.2.1 dL_isSo_435 (lv_at hl 0 rfl) ?_
  refine g_y5 (v := 1) (As := [.int 3, .int 210]) (rest := []) S I Z (tX5_has l hlf sa D cI cC cZ h a b d z q xFp0 xG0 xF0 xG0 xF0 xG0 xF0 xG0 3 210 (0, 1) g_has210) rfl rfl rfl (cwV 2 S.2.2.2.2 gL_isSo_X5_has rfl rfl rfl (by decide +kernel) ⟨Nat.le_of_ble_eq_true rfl, Nat.le_of_ble_eq_true rfl⟩) hl rfl (Nat.le_of_ble_eq_true rfl) ⟨by show _ ≤ 40; omega, by show _ ≤ 240; omega⟩ dL_isSo_437 (fun H locs I hg => ?_)
  replace hz : N + 0 ≤ H.size := by omega
  refine lv_aload_n S.1 S.2.1 dL_isSo_440 rfl (lv_at hl 7 rfl) ?_
  refine lv_iconst (v := 3) S.1 S.2.1 dL_isSo_441 (by decide) ?_
  refine lv_iload S.1 S.2.1 dL_isSo_442 (lv_at hl 0 rfl) ?_
  refine g_y5 (v := 1) (As := [.int 3, .int 210]) (rest := [.int 1]) S I Z (tX5_hasAnew l hlf sa D cI cC cZ h a b d z q xFp0 xG0 xF0 xG0 xF0 xG0 xF0 xG0 3 210 (0, 1) g_hasAnew210) rfl rfl rfl (cwV 2 S.2.2.2.2 gL_isSo_X5_hasAnew rfl rfl rfl (by decide +kernel) ⟨Nat.le_of_ble_eq_true rfl, Nat.le_of_ble_eq_true rfl⟩) hl rfl (Nat.le_of_ble_eq_true rfl) ⟨by show _ ≤ 40; omega, by show _ ≤ 240; omega⟩ dL_isSo_444 (fun H locs I hg => ?_)
  replace hz : N + 0 ≤ H.size := by omega
  refine lv_icmp_ne (tgt := 483) S.1 S.2.1 dL_isSo_447 (by decide) (fun c1 => absurd c1 (by decide)) (fun _ => ?_)
  refine lv_aload_n S.1 S.2.1 dL_isSo_450 rfl (lv_at hl 7 rfl) ?_
  refine lv_iconst (v := 3) S.1 S.2.1 dL_isSo_451 (by decide) ?_
  refine lv_iload S.1 S.2.1 dL_isSo_452 (lv_at hl 0 rfl) ?_
  refine g_y5 (v := 1) (As := [.int 3, .int 210]) (rest := []) S I Z (tX5_has l hlf sa D cI cC cZ h a b d z q xFp0 xG0 xF0 xG0 xF0 xG0 xF0 xG0 3 210 (0, 1) g_has210) rfl rfl rfl (cwV 2 S.2.2.2.2 gL_isSo_X5_has rfl rfl rfl (by decide +kernel) ⟨Nat.le_of_ble_eq_true rfl, Nat.le_of_ble_eq_true rfl⟩) hl rfl (Nat.le_of_ble_eq_true rfl) ⟨by show _ ≤ 40; omega, by show _ ≤ 240; omega⟩ dL_isSo_454 (fun H locs I hg => ?_)
  replace hz : N + 0 ≤ H.size := by omega
  refine lv_if_eq (tgt := 479) S.1 S.2.1 dL_isSo_457 (by decide) (fun c1 => absurd c1 (by decide)) (fun _ => ?_)
  refine lv_aload_n S.1 S.2.1 dL_isSo_460 rfl (lv_at hl 7 rfl) ?_
  refine lv_iconst (v := 3) S.1 S.2.1 dL_isSo_461 (by decide) ?_
  refine lv_iload S.1 S.2.1 dL_isSo_462 (lv_at hl 0 rfl) ?_
  refine lv_iconst (v := 1) S.1 S.2.1 dL_isSo_464 (by decide) ?_
  refine lv_iload_n S.1 S.2.1 dL_isSo_465 rfl (lv_at hl 8 rfl) ?_
  refine lv_bipush (v := 8) S.1 S.2.1 dL_isSo_466 (by decide) ?_
  refine g_low5 (v := g_lo 136 8) (As := [.int 136, .int 8]) (rest := [.int 1, .int 210, .int 3, .ref h]) S I Z (tL_low l sa D cI cC cZ 136 8 (by decide)) (va_cwS 2 S.2.2.2.2 gL_isSo_L_low rfl rfl rfl (by decide +kernel) ⟨Nat.le_of_ble_eq_true rfl, Nat.le_of_ble_eq_true rfl⟩) hl rfl (Nat.le_of_ble_eq_true rfl) ⟨by show _ ≤ 40; omega, by show _ ≤ 240; omega⟩ dL_isSo_468 (fun H locs I hg => ?_)
  replace hz : N + 0 ≤ H.size := by omega
  refine g_top (y := 0) (by decide +kernel) ?_
  refine lv_ishl S.1 S.2.1 dL_isSo_471 ?_
  refine g_top (y := 1) (by decide +kernel) ?_
  refine lv_ior S.1 S.2.1 dL_isSo_472 ?_
  refine g_top (y := 211) (by decide +kernel) ?_
  refine g_y5 (v := 1) (As := [.int 3, .int 211]) (rest := []) S I Z (tX5_has l hlf sa D cI cC cZ h a b d z q xFp0 xG0 xF0 xG0 xF0 xG0 xF0 xG0 3 211 (0, 1) g_has211) rfl rfl rfl (cwV 2 S.2.2.2.2 gL_isSo_X5_has rfl rfl rfl (by decide +kernel) ⟨Nat.le_of_ble_eq_true rfl, Nat.le_of_ble_eq_true rfl⟩) hl rfl (Nat.le_of_ble_eq_true rfl) ⟨by show _ ≤ 40; omega, by show _ ≤ 240; omega⟩ dL_isSo_473 (fun H locs I hg => ?_)
  replace hz : N + 0 ≤ H.size := by omega
  refine lv_if_eq (tgt := 483) S.1 S.2.1 dL_isSo_476 (by decide) (fun c1 => absurd c1 (by decide)) (fun _ => ?_)
  refine lv_iconst (v := 1) S.1 S.2.1 dL_isSo_479 (by decide) ?_
  refine lv_goto (tgt := 484) S.1 S.2.1 dL_isSo_480 (by decide) ?_
  refine lv_istore (lv' := [(4, .int 1), (8, .int 210), (7, .int 2), (6, .int 0), (5, .int 0), (3, .int (-1)), (2, .int (-1)), (0, .ref h), (1, .int 136)]) S.1 S.2.1 dL_isSo_484 hl (by decide) rfl (fun ls hl => ?_)
  refine lv_iinc (k := 2) (lv' := [(7, .int 3), (4, .int 1), (8, .int 210), (6, .int 0), (5, .int 0), (3, .int (-1)), (2, .int (-1)), (0, .ref h), (1, .int 136)]) S.1 S.2.1 dL_isSo_486 hl rfl (by decide +kernel) (by decide) rfl (fun ls hl => ?_)
  refine lv_goto (tgt := 406) S.1 S.2.1 dL_isSo_489 (by decide) ?_
  refine lv_iload S.1 S.2.1 dL_isSo_406 (lv_at hl 0 rfl) ?_
  refine lv_bipush (v := 6) S.1 S.2.1 dL_isSo_408 (by decide) ?_
  refine lv_icmp_ge (tgt := 492) S.1 S.2.1 dL_isSo_410 (by decide) (fun c1 => absurd c1 (by decide)) (fun _ => ?_)
  refine lv_iload S.1 S.2.1 dL_isSo_413 (lv_at hl 1 rfl) ?_
  refine lv_if_eq (tgt := 492) S.1 S.2.1 dL_isSo_415 (by decide) (fun c1 => absurd c1 (by decide)) (fun _ => ?_)
  refine lv_iload_n S.1 S.2.1 dL_isSo_418 rfl (lv_at hl 8 rfl) ?_
  refine lv_bipush (v := 37) S.1 S.2.1 dL_isSo_419 (by decide) ?_
  refine lv_iload S.1 S.2.1 dL_isSo_421 (lv_at hl 0 rfl) ?_
  refine lv_imul S.1 S.2.1 dL_isSo_423 ?_
  refine g_top (y := 111) (by decide +kernel) ?_
  refine lv_iadd S.1 S.2.1 dL_isSo_424 ?_
  refine g_top (y := 247) (by decide +kernel) ?_
  refine lv_sipush (v := 256) S.1 S.2.1 dL_isSo_425 (by decide) ?_
  refine g_low5 (v := g_lo 247 256) (As := [.int 247, .int 256]) (rest := []) S I Z (tL_low l sa D cI cC cZ 247 256 (by decide)) (va_cwS 2 S.2.2.2.2 gL_isSo_L_low rfl rfl rfl (by decide +kernel) ⟨Nat.le_of_ble_eq_true rfl, Nat.le_of_ble_eq_true rfl⟩) hl rfl (Nat.le_of_ble_eq_true rfl) ⟨by show _ ≤ 40; omega, by show _ ≤ 240; omega⟩ dL_isSo_428 (fun H locs I hg => ?_)
  replace hz : N + 0 ≤ H.size := by omega
  refine g_top (y := 247) (by decide +kernel) ?_
  refine lv_istore (lv' := [(8, .int 247), (7, .int 3), (4, .int 1), (6, .int 0), (5, .int 0), (3, .int (-1)), (2, .int (-1)), (0, .ref h), (1, .int 136)]) S.1 S.2.1 dL_isSo_431 hl (by decide) rfl (fun ls hl => ?_)
  refine lv_aload_n S.1 S.2.1 dL_isSo_433 rfl (lv_at hl 7 rfl) ?_
  refine lv_iconst (v := 3) S.1 S.2.1 dL_isSo_434 (by decide) ?_
  refine lv_iload S.1 S.2.1 dL_isSo_435 (lv_at hl 0 rfl) ?_
  refine g_y5 (v := 1) (As := [.int 3, .int 247]) (rest := []) S I Z (tX5_has l hlf sa D cI cC cZ h a b d z q xFp0 xG0 xF0 xG0 xF0 xG0 xF0 xG0 3 247 (0, 1) g_has247) rfl rfl rfl (cwV 2 S.2.2.2.2 gL_isSo_X5_has rfl rfl rfl (by decide +kernel) ⟨Nat.le_of_ble_eq_true rfl, Nat.le_of_ble_eq_true rfl⟩) hl rfl (Nat.le_of_ble_eq_true rfl) ⟨by show _ ≤ 40; omega, by show _ ≤ 240; omega⟩ dL_isSo_437 (fun H locs I hg => ?_)
  replace hz : N + 0 ≤ H.size := by omega
  refine lv_aload_n S.1 S.2.1 dL_isSo_440 rfl (lv_at hl 7 rfl) ?_
  refine lv_iconst (v := 3) S.1 S.2.1 dL_isSo_441 (by decide) ?_
  refine lv_iload S.1 S.2.1 dL_isSo_442 (lv_at hl 0 rfl) ?_
  refine g_y5 (v := 1) (As := [.int 3, .int 247]) (rest := [.int 1]) S I Z (tX5_hasAnew l hlf sa D cI cC cZ h a b d z q xFp0 xG0 xF0 xG0 xF0 xG0 xF0 xG0 3 247 (0, 1) g_hasAnew247) rfl rfl rfl (cwV 2 S.2.2.2.2 gL_isSo_X5_hasAnew rfl rfl rfl (by decide +kernel) ⟨Nat.le_of_ble_eq_true rfl, Nat.le_of_ble_eq_true rfl⟩) hl rfl (Nat.le_of_ble_eq_true rfl) ⟨by show _ ≤ 40; omega, by show _ ≤ 240; omega⟩ dL_isSo_444 (fun H locs I hg => ?_)
  replace hz : N + 0 ≤ H.size := by omega
  refine lv_icmp_ne (tgt := 483) S.1 S.2.1 dL_isSo_447 (by decide) (fun c1 => absurd c1 (by decide)) (fun _ => ?_)
  refine lv_aload_n S.1 S.2.1 dL_isSo_450 rfl (lv_at hl 7 rfl) ?_
  refine lv_iconst (v := 3) S.1 S.2.1 dL_isSo_451 (by decide) ?_
  refine lv_iload S.1 S.2.1 dL_isSo_452 (lv_at hl 0 rfl) ?_
  refine g_y5 (v := 1) (As := [.int 3, .int 247]) (rest := []) S I Z (tX5_has l hlf sa D cI cC cZ h a b d z q xFp0 xG0 xF0 xG0 xF0 xG0 xF0 xG0 3 247 (0, 1) g_has247) rfl rfl rfl (cwV 2 S.2.2.2.2 gL_isSo_X5_has rfl rfl rfl (by decide +kernel) ⟨Nat.le_of_ble_eq_true rfl, Nat.le_of_ble_eq_true rfl⟩) hl rfl (Nat.le_of_ble_eq_true rfl) ⟨by show _ ≤ 40; omega, by show _ ≤ 240; omega⟩ dL_isSo_454 (fun H locs I hg => ?_)
  replace hz : N + 0 ≤ H.size := by omega
  refine lv_if_eq (tgt := 479) S.1 S.2.1 dL_isSo_457 (by decide) (fun c1 => absurd c1 (by decide)) (fun _ => ?_)
  refine lv_aload_n S.1 S.2.1 dL_isSo_460 rfl (lv_at hl 7 rfl) ?_
  refine lv_iconst (v := 3) S.1 S.2.1 dL_isSo_461 (by decide) ?_
  refine lv_iload S.1 S.2.1 dL_isSo_462 (lv_at hl 0 rfl) ?_
  refine lv_iconst (v := 1) S.1 S.2.1 dL_isSo_464 (by decide) ?_
  refine lv_iload_n S.1 S.2.1 dL_isSo_465 rfl (lv_at hl 8 rfl) ?_
  refine lv_bipush (v := 8) S.1 S.2.1 dL_isSo_466 (by decide) ?_
  refine g_low5 (v := g_lo 136 8) (As := [.int 136, .int 8]) (rest := [.int 1, .int 247, .int 3, .ref h]) S I Z (tL_low l sa D cI cC cZ 136 8 (by decide)) (va_cwS 2 S.2.2.2.2 gL_isSo_L_low rfl rfl rfl (by decide +kernel) ⟨Nat.le_of_ble_eq_true rfl, Nat.le_of_ble_eq_true rfl⟩) hl rfl (Nat.le_of_ble_eq_true rfl) ⟨by show _ ≤ 40; omega, by show _ ≤ 240; omega⟩ dL_isSo_468 (fun H locs I hg => ?_)
  replace hz : N + 0 ≤ H.size := by omega
  refine g_top (y := 0) (by decide +kernel) ?_
  refine lv_ishl S.1 S.2.1 dL_isSo_471 ?_
  refine g_top (y := 1) (by decide +kernel) ?_
  refine lv_ior S.1 S.2.1 dL_isSo_472 ?_
  refine g_top (y := 247) (by decide +kernel) ?_
  refine g_y5 (v := 1) (As := [.int 3, .int 247]) (rest := []) S I Z (tX5_has l hlf sa D cI cC cZ h a b d z q xFp0 xG0 xF0 xG0 xF0 xG0 xF0 xG0 3 247 (0, 1) g_has247) rfl rfl rfl (cwV 2 S.2.2.2.2 gL_isSo_X5_has rfl rfl rfl (by decide +kernel) ⟨Nat.le_of_ble_eq_true rfl, Nat.le_of_ble_eq_true rfl⟩) hl rfl (Nat.le_of_ble_eq_true rfl) ⟨by show _ ≤ 40; omega, by show _ ≤ 240; omega⟩ dL_isSo_473 (fun H locs I hg => ?_)
  replace hz : N + 0 ≤ H.size := by omega
  refine lv_if_eq (tgt := 483) S.1 S.2.1 dL_isSo_476 (by decide) (fun c1 => absurd c1 (by decide)) (fun _ => ?_)
  refine lv_iconst (v := 1) S.1 S.2.1 dL_isSo_479 (by decide) ?_
  refine lv_goto (tgt := 484) S.1 S.2.1 dL_isSo_480 (by decide) ?_
  refine lv_istore (lv' := [(4, .int 1), (8, .int 247), (7, .int 3), (6, .int 0), (5, .int 0), (3, .int (-1)), (2, .int (-1)), (0, .ref h), (1, .int 136)]) S.1 S.2.1 dL_isSo_484 hl (by decide) rfl (fun ls hl => ?_)
  refine lv_iinc (k := 2) (lv' := [(7, .int 4), (4, .int 1), (8, .int 247), (6, .int 0), (5, .int 0), (3, .int (-1)), (2, .int (-1)), (0, .ref h), (1, .int 136)]) S.1 S.2.1 dL_isSo_486 hl rfl (by decide +kernel) (by decide) rfl (fun ls hl => ?_)
  refine lv_goto (tgt := 406) S.1 S.2.1 dL_isSo_489 (by decide) ?_
  refine lv_iload S.1 S.2.1 dL_isSo_406 (lv_at hl 0 rfl) ?_
  refine lv_bipush (v := 6) S.1 S.2.1 dL_isSo_408 (by decide) ?_
  refine lv_icmp_ge (tgt := 492) S.1 S.2.1 dL_isSo_410 (by decide) (fun c1 => absurd c1 (by decide)) (fun _ => ?_)
  refine lv_iload S.1 S.2.1 dL_isSo_413 (lv_at hl 1 rfl) ?_
  refine lv_if_eq (tgt := 492) S.1 S.2.1 dL_isSo_415 (by decide) (fun c1 => absurd c1 (by decide)) (fun _ => ?_)
  refine lv_iload_n S.1 S.2.1 dL_isSo_418 rfl (lv_at hl 8 rfl) ?_
  refine lv_bipush (v := 37) S.1 S.2.1 dL_isSo_419 (by decide) ?_
  refine lv_iload S.1 S.2.1 dL_isSo_421 (lv_at hl 0 rfl) ?_
  refine lv_imul S.1 S.2.1 dL_isSo_423 ?_
  refine g_top (y := 148) (by decide +kernel) ?_
  refine lv_iadd S.1 S.2.1 dL_isSo_424 ?_
  refine g_top (y := 284) (by decide +kernel) ?_
  refine lv_sipush (v := 256) S.1 S.2.1 dL_isSo_425 (by decide) ?_
  refine g_low5 (v := g_lo 284 256) (As := [.int 284, .int 256]) (rest := []) S I Z (tL_low l sa D cI cC cZ 284 256 (by decide)) (va_cwS 2 S.2.2.2.2 gL_isSo_L_low rfl rfl rfl (by decide +kernel) ⟨Nat.le_of_ble_eq_true rfl, Nat.le_of_ble_eq_true rfl⟩) hl rfl (Nat.le_of_ble_eq_true rfl) ⟨by show _ ≤ 40; omega, by show _ ≤ 240; omega⟩ dL_isSo_428 (fun H locs I hg => ?_)
  replace hz : N + 0 ≤ H.size := by omega
  refine g_top (y := 28) (by decide +kernel) ?_
  refine lv_istore (lv' := [(8, .int 28), (7, .int 4), (4, .int 1), (6, .int 0), (5, .int 0), (3, .int (-1)), (2, .int (-1)), (0, .ref h), (1, .int 136)]) S.1 S.2.1 dL_isSo_431 hl (by decide) rfl (fun ls hl => ?_)
  refine lv_aload_n S.1 S.2.1 dL_isSo_433 rfl (lv_at hl 7 rfl) ?_
  refine lv_iconst (v := 3) S.1 S.2.1 dL_isSo_434 (by decide) ?_
  refine lv_iload S.1 S.2.1 dL_isSo_435 (lv_at hl 0 rfl) ?_
  refine g_y5 (v := 0) (As := [.int 3, .int 28]) (rest := []) S I Z (tX5_has l hlf sa D cI cC cZ h a b d z q xFp0 xG0 xF0 xG0 xF0 xG0 xF0 xG0 3 28 (0, 0) g_has28) rfl rfl rfl (cwV 2 S.2.2.2.2 gL_isSo_X5_has rfl rfl rfl (by decide +kernel) ⟨Nat.le_of_ble_eq_true rfl, Nat.le_of_ble_eq_true rfl⟩) hl rfl (Nat.le_of_ble_eq_true rfl) ⟨by show _ ≤ 40; omega, by show _ ≤ 240; omega⟩ dL_isSo_437 (fun H locs I hg => ?_)
  replace hz : N + 0 ≤ H.size := by omega
  refine lv_aload_n S.1 S.2.1 dL_isSo_440 rfl (lv_at hl 7 rfl) ?_
  refine lv_iconst (v := 3) S.1 S.2.1 dL_isSo_441 (by decide) ?_
  refine lv_iload S.1 S.2.1 dL_isSo_442 (lv_at hl 0 rfl) ?_
  refine g_y5 (v := 0) (As := [.int 3, .int 28]) (rest := [.int 0]) S I Z (tX5_hasAnew l hlf sa D cI cC cZ h a b d z q xFp0 xG0 xF0 xG0 xF0 xG0 xF0 xG0 3 28 (0, 0) g_hasAnew28) rfl rfl rfl (cwV 2 S.2.2.2.2 gL_isSo_X5_hasAnew rfl rfl rfl (by decide +kernel) ⟨Nat.le_of_ble_eq_true rfl, Nat.le_of_ble_eq_true rfl⟩) hl rfl (Nat.le_of_ble_eq_true rfl) ⟨by show _ ≤ 40; omega, by show _ ≤ 240; omega⟩ dL_isSo_444 (fun H locs I hg => ?_)
  replace hz : N + 0 ≤ H.size := by omega
  refine lv_icmp_ne (tgt := 483) S.1 S.2.1 dL_isSo_447 (by decide) (fun c1 => absurd c1 (by decide)) (fun _ => ?_)
  refine lv_aload_n S.1 S.2.1 dL_isSo_450 rfl (lv_at hl 7 rfl) ?_
  refine lv_iconst (v := 3) S.1 S.2.1 dL_isSo_451 (by decide) ?_
  refine lv_iload S.1 S.2.1 dL_isSo_452 (lv_at hl 0 rfl) ?_
  refine g_y5 (v := 0) (As := [.int 3, .int 28]) (rest := []) S I Z (tX5_has l hlf sa D cI cC cZ h a b d z q xFp0 xG0 xF0 xG0 xF0 xG0 xF0 xG0 3 28 (0, 0) g_has28) rfl rfl rfl (cwV 2 S.2.2.2.2 gL_isSo_X5_has rfl rfl rfl (by decide +kernel) ⟨Nat.le_of_ble_eq_true rfl, Nat.le_of_ble_eq_true rfl⟩) hl rfl (Nat.le_of_ble_eq_true rfl) ⟨by show _ ≤ 40; omega, by show _ ≤ 240; omega⟩ dL_isSo_454 (fun H locs I hg => ?_)
  replace hz : N + 0 ≤ H.size := by omega
  refine lv_if_eq (tgt := 479) S.1 S.2.1 dL_isSo_457 (by decide) (fun _ => ?_) (fun c1 => absurd c1 (by decide))
  refine lv_iconst (v := 1) S.1 S.2.1 dL_isSo_479 (by decide) ?_
  refine lv_goto (tgt := 484) S.1 S.2.1 dL_isSo_480 (by decide) ?_
  refine lv_istore (lv' := [(4, .int 1), (8, .int 28), (7, .int 4), (6, .int 0), (5, .int 0), (3, .int (-1)), (2, .int (-1)), (0, .ref h), (1, .int 136)]) S.1 S.2.1 dL_isSo_484 hl (by decide) rfl (fun ls hl => ?_)
  refine lv_iinc (k := 2) (lv' := [(7, .int 5), (4, .int 1), (8, .int 28), (6, .int 0), (5, .int 0), (3, .int (-1)), (2, .int (-1)), (0, .ref h), (1, .int 136)]) S.1 S.2.1 dL_isSo_486 hl rfl (by decide +kernel) (by decide) rfl (fun ls hl => ?_)
  refine lv_goto (tgt := 406) S.1 S.2.1 dL_isSo_489 (by decide) ?_
  refine lv_iload S.1 S.2.1 dL_isSo_406 (lv_at hl 0 rfl) ?_
  refine lv_bipush (v := 6) S.1 S.2.1 dL_isSo_408 (by decide) ?_
  refine lv_icmp_ge (tgt := 492) S.1 S.2.1 dL_isSo_410 (by decide) (fun c1 => absurd c1 (by decide)) (fun _ => ?_)
  refine lv_iload S.1 S.2.1 dL_isSo_413 (lv_at hl 1 rfl) ?_
  refine lv_if_eq (tgt := 492) S.1 S.2.1 dL_isSo_415 (by decide) (fun c1 => absurd c1 (by decide)) (fun _ => ?_)
  refine lv_iload_n S.1 S.2.1 dL_isSo_418 rfl (lv_at hl 8 rfl) ?_
  refine lv_bipush (v := 37) S.1 S.2.1 dL_isSo_419 (by decide) ?_
  refine lv_iload S.1 S.2.1 dL_isSo_421 (lv_at hl 0 rfl) ?_
  refine lv_imul S.1 S.2.1 dL_isSo_423 ?_
  refine g_top (y := 185) (by decide +kernel) ?_
  refine lv_iadd S.1 S.2.1 dL_isSo_424 ?_
  refine g_top (y := 321) (by decide +kernel) ?_
  refine lv_sipush (v := 256) S.1 S.2.1 dL_isSo_425 (by decide) ?_
  refine g_low5 (v := g_lo 321 256) (As := [.int 321, .int 256]) (rest := []) S I Z (tL_low l sa D cI cC cZ 321 256 (by decide)) (va_cwS 2 S.2.2.2.2 gL_isSo_L_low rfl rfl rfl (by decide +kernel) ⟨Nat.le_of_ble_eq_true rfl, Nat.le_of_ble_eq_true rfl⟩) hl rfl (Nat.le_of_ble_eq_true rfl) ⟨by show _ ≤ 40; omega, by show _ ≤ 240; omega⟩ dL_isSo_428 (fun H locs I hg => ?_)
  replace hz : N + 0 ≤ H.size := by omega
  refine g_top (y := 65) (by decide +kernel) ?_
  refine lv_istore (lv' := [(8, .int 65), (7, .int 5), (4, .int 1), (6, .int 0), (5, .int 0), (3, .int (-1)), (2, .int (-1)), (0, .ref h), (1, .int 136)]) S.1 S.2.1 dL_isSo_431 hl (by decide) rfl (fun ls hl => ?_)
  refine lv_aload_n S.1 S.2.1 dL_isSo_433 rfl (lv_at hl 7 rfl) ?_
  refine lv_iconst (v := 3) S.1 S.2.1 dL_isSo_434 (by decide) ?_
  refine lv_iload S.1 S.2.1 dL_isSo_435 (lv_at hl 0 rfl) ?_
  refine g_y5 (v := 0) (As := [.int 3, .int 65]) (rest := []) S I Z (tX5_has l hlf sa D cI cC cZ h a b d z q xFp0 xG0 xF0 xG0 xF0 xG0 xF0 xG0 3 65 (0, 0) g_has65) rfl rfl rfl (cwV 2 S.2.2.2.2 gL_isSo_X5_has rfl rfl rfl (by decide +kernel) ⟨Nat.le_of_ble_eq_true rfl, Nat.le_of_ble_eq_true rfl⟩) hl rfl (Nat.le_of_ble_eq_true rfl) ⟨by show _ ≤ 40; omega, by show _ ≤ 240; omega⟩ dL_isSo_437 (fun H locs I hg => ?_)
  replace hz : N + 0 ≤ H.size := by omega
  refine lv_aload_n S.1 S.2.1 dL_isSo_440 rfl (lv_at hl 7 rfl) ?_
  refine lv_iconst (v := 3) S.1 S.2.1 dL_isSo_441 (by decide) ?_
  refine lv_iload S.1 S.2.1 dL_isSo_442 (lv_at hl 0 rfl) ?_
  refine g_y5 (v := 0) (As := [.int 3, .int 65]) (rest := [.int 0]) S I Z (tX5_hasAnew l hlf sa D cI cC cZ h a b d z q xFp0 xG0 xF0 xG0 xF0 xG0 xF0 xG0 3 65 (0, 0) g_hasAnew65) rfl rfl rfl (cwV 2 S.2.2.2.2 gL_isSo_X5_hasAnew rfl rfl rfl (by decide +kernel) ⟨Nat.le_of_ble_eq_true rfl, Nat.le_of_ble_eq_true rfl⟩) hl rfl (Nat.le_of_ble_eq_true rfl) ⟨by show _ ≤ 40; omega, by show _ ≤ 240; omega⟩ dL_isSo_444 (fun H locs I hg => ?_)
  replace hz : N + 0 ≤ H.size := by omega
  refine lv_icmp_ne (tgt := 483) S.1 S.2.1 dL_isSo_447 (by decide) (fun c1 => absurd c1 (by decide)) (fun _ => ?_)
  refine lv_aload_n S.1 S.2.1 dL_isSo_450 rfl (lv_at hl 7 rfl) ?_
  refine lv_iconst (v := 3) S.1 S.2.1 dL_isSo_451 (by decide) ?_
  refine lv_iload S.1 S.2.1 dL_isSo_452 (lv_at hl 0 rfl) ?_
  refine g_y5 (v := 0) (As := [.int 3, .int 65]) (rest := []) S I Z (tX5_has l hlf sa D cI cC cZ h a b d z q xFp0 xG0 xF0 xG0 xF0 xG0 xF0 xG0 3 65 (0, 0) g_has65) rfl rfl rfl (cwV 2 S.2.2.2.2 gL_isSo_X5_has rfl rfl rfl (by decide +kernel) ⟨Nat.le_of_ble_eq_true rfl, Nat.le_of_ble_eq_true rfl⟩) hl rfl (Nat.le_of_ble_eq_true rfl) ⟨by show _ ≤ 40; omega, by show _ ≤ 240; omega⟩ dL_isSo_454 (fun H locs I hg => ?_)
  replace hz : N + 0 ≤ H.size := by omega
  refine lv_if_eq (tgt := 479) S.1 S.2.1 dL_isSo_457 (by decide) (fun _ => ?_) (fun c1 => absurd c1 (by decide))
  refine lv_iconst (v := 1) S.1 S.2.1 dL_isSo_479 (by decide) ?_
  refine lv_goto (tgt := 484) S.1 S.2.1 dL_isSo_480 (by decide) ?_
  refine lv_istore (lv' := [(4, .int 1), (8, .int 65), (7, .int 5), (6, .int 0), (5, .int 0), (3, .int (-1)), (2, .int (-1)), (0, .ref h), (1, .int 136)]) S.1 S.2.1 dL_isSo_484 hl (by decide) rfl (fun ls hl => ?_)
  refine lv_iinc (k := 2) (lv' := [(7, .int 6), (4, .int 1), (8, .int 65), (6, .int 0), (5, .int 0), (3, .int (-1)), (2, .int (-1)), (0, .ref h), (1, .int 136)]) S.1 S.2.1 dL_isSo_486 hl rfl (by decide +kernel) (by decide) rfl (fun ls hl => ?_)
  refine lv_goto (tgt := 406) S.1 S.2.1 dL_isSo_489 (by decide) ?_
  refine lv_iload S.1 S.2.1 dL_isSo_406 (lv_at hl 0 rfl) ?_
  refine lv_bipush (v := 6) S.1 S.2.1 dL_isSo_408 (by decide) ?_
  refine lv_icmp_ge (tgt := 492) S.1 S.2.1 dL_isSo_410 (by decide) (fun _ => ?_) (fun c1 => absurd c1 (by decide))
  refine W.widen (k := cells + 21) (n := slots + 126) (by omega) (by omega) ?_
  exact kk H locs ls I (by omega) hl
set_option maxHeartbeats 8000000 in
set_option maxRecDepth 100000 in
theorem tL_isSo (l : Launch) (hlf : l.stackTraces = false) (sa : Nat → Nat) (D : va_G) (cI cC cZ : ClassId) (h : Nat) (a b d z q : Nat → Nat) : gC l yL_isSo wsL_isSo rmL_isSo D sa [.ref h, .int 136] (w5 cI cC cZ h a b d z q) (xT cI cC cZ) 1 0 40 240 := by
  refine g_of (cc := cL_isSo) (maxL := 11) (ret := some .boolean) (by decide) rfl (Nat.le_of_ble_eq_true rfl) ?_
  intro p e s m args below meth c A Q ls S I Z E hl
  replace hl : lv_has ls 11 [(0, .ref h), (1, .int 136)] := hl
  have hz : s.heap.size + 0 ≤ s.heap.size := Nat.le_refl _
  refine iso_0 hlf S I Z hl (Nat.le_of_ble_eq_true rfl) (Nat.le_of_ble_eq_true rfl) (fun H locs ls I hg hl => ?_)
  replace hz : s.heap.size + 0 ≤ H.size := by omega
  refine iso_82 hlf S I Z hl (Nat.le_of_ble_eq_true rfl) (Nat.le_of_ble_eq_true rfl) (fun H locs ls I hg hl => ?_)
  replace hz : s.heap.size + 0 ≤ H.size := by omega
  refine iso_115 hlf S I Z hl (Nat.le_of_ble_eq_true rfl) (Nat.le_of_ble_eq_true rfl) (fun H locs ls I hg hl => ?_)
  replace hz : s.heap.size + 0 ≤ H.size := by omega
  refine iso_326 hlf S I Z hl (Nat.le_of_ble_eq_true rfl) (Nat.le_of_ble_eq_true rfl) (fun H locs ls I hg hl => ?_)
  replace hz : s.heap.size + 0 ≤ H.size := by omega
  refine iso_406 hlf S I Z hl (Nat.le_of_ble_eq_true rfl) (Nat.le_of_ble_eq_true rfl) (fun H locs ls I hg hl => ?_)
  replace hz : s.heap.size + 0 ≤ H.size := by omega
  refine lv_iload S.1 S.2.1 dL_isSo_492 (lv_at hl 1 rfl) ?_
  refine lv_if_eq (tgt := 525) S.1 S.2.1 dL_isSo_494 (by decide) (fun c1 => absurd c1 (by decide)) (fun _ => ?_)
  refine lv_aload_n S.1 S.2.1 dL_isSo_497 rfl (lv_at hl 7 rfl) ?_
  refine lv_bipush (v := 10) S.1 S.2.1 dL_isSo_498 (by decide) ?_
  refine lv_iconst (v := 0) S.1 S.2.1 dL_isSo_500 (by decide) ?_
  refine g_h5 (v := -99999999) (As := [.ref h, .int 10, .int 0]) (rest := []) S I Z (tL_ofPrinciple l hlf sa D cI cC cZ h a b d z q 10 0) (vx_cwSW 3 S.2.2.2.2 gL_isSo_L_ofPrinciple rfl rfl rfl (by decide +kernel) ⟨Nat.le_of_ble_eq_true rfl, Nat.le_of_ble_eq_true rfl⟩) hl rfl (Nat.le_of_ble_eq_true rfl) ⟨by show _ ≤ 40; omega, by show _ ≤ 240; omega⟩ dL_isSo_501 (fun H locs I hg => ?_)
  replace hz : s.heap.size + 0 ≤ H.size := by omega
  refine lv_ldc (own := RL) (index := 16) (v := -99999999) S.1 S.2.1 S.2.2.2.1 (S.2.2.2.2 _ (by decide +kernel)) dL_isSo_504 ?_
  refine lv_icmp_ne (tgt := 525) S.1 S.2.1 dL_isSo_506 (by decide) (fun c1 => absurd c1 (by decide)) (fun _ => ?_)
  refine lv_aload_n S.1 S.2.1 dL_isSo_509 rfl (lv_at hl 7 rfl) ?_
  refine lv_bipush (v := 6) S.1 S.2.1 dL_isSo_510 (by decide) ?_
  refine lv_iconst (v := 0) S.1 S.2.1 dL_isSo_512 (by decide) ?_
  refine g_h5 (v := -99999999) (As := [.ref h, .int 6, .int 0]) (rest := []) S I Z (tL_ofProblem l hlf sa D cI cC cZ h a b d z q 6 0) (vx_cwSW 3 S.2.2.2.2 gL_isSo_L_ofProblem rfl rfl rfl (by decide +kernel) ⟨Nat.le_of_ble_eq_true rfl, Nat.le_of_ble_eq_true rfl⟩) hl rfl (Nat.le_of_ble_eq_true rfl) ⟨by show _ ≤ 40; omega, by show _ ≤ 240; omega⟩ dL_isSo_513 (fun H locs I hg => ?_)
  replace hz : s.heap.size + 0 ≤ H.size := by omega
  refine lv_ldc (own := RL) (index := 16) (v := -99999999) S.1 S.2.1 S.2.2.2.1 (S.2.2.2.2 _ (by decide +kernel)) dL_isSo_516 ?_
  refine lv_icmp_ne (tgt := 525) S.1 S.2.1 dL_isSo_518 (by decide) (fun c1 => absurd c1 (by decide)) (fun _ => ?_)
  refine lv_iconst (v := 1) S.1 S.2.1 dL_isSo_521 (by decide) ?_
  refine lv_goto (tgt := 526) S.1 S.2.1 dL_isSo_522 (by decide) ?_
  refine W.widen (k := 40) (n := 240) (Nat.le_of_ble_eq_true rfl) (Nat.le_of_ble_eq_true rfl) ?_
  exact g_ret S E rfl rfl I hz dL_isSo_526
end GISO
