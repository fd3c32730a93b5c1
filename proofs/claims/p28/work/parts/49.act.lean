section GACT
/-! the law's act at 136: it asks for the principle of an empty page -/
def rmL_act : Room := { frames := 11, cells := 1, slots := 6, locals := 250 }
set_option maxHeartbeats 4000000 in
set_option maxRecDepth 100000 in
theorem tL_act (l : Launch) (hlf : l.stackTraces = false) (sa : Nat → Nat) (D : va_G) (cI cC cZ : ClassId) (h : Nat) (a b d z q : Nat → Nat) : gC l yL_act wsL_act rmL_act D sa [.ref h, .int 136] (w5 cI cC cZ h a b d z q) (xT cI cC cZ) (-99999999) 1 1 6 := by
  refine g_of (cc := cL_act) (maxL := 8) (ret := some .int) (by decide) rfl (Nat.le_of_ble_eq_true rfl) ?_
  intro p e s m args below meth c A Q ls S I Z E hl
  replace hl : lv_has ls 8 [(0, .ref h), (1, .int 136)] := hl
  have hz : s.heap.size + 0 ≤ s.heap.size := Nat.le_refl _
  refine lv_iload_n S.1 S.2.1 dL_act_0 rfl (lv_at hl 1 rfl) ?_
  refine lv_bipush (v := 26) S.1 S.2.1 dL_act_1 (by decide) ?_
  refine lv_ishr S.1 S.2.1 dL_act_3 ?_
  refine g_top (y := 0) (by decide +kernel) ?_
  refine lv_bipush (v := 14) S.1 S.2.1 dL_act_4 (by decide) ?_
  refine g_low5 (v := g_lo 0 14) (As := [.int 0, .int 14]) (rest := []) S I Z (tL_low l sa D cI cC cZ 0 14 (by decide)) (va_cwS 2 S.2.2.2.2 gL_act_L_low rfl rfl rfl (by decide +kernel) ⟨Nat.le_of_ble_eq_true rfl, Nat.le_of_ble_eq_true rfl⟩) hl rfl (Nat.le_of_ble_eq_true rfl) ⟨(Nat.le_of_ble_eq_true rfl), (Nat.le_of_ble_eq_true rfl)⟩ dL_act_6 (fun H locs I hg => ?_)
  replace hz : s.heap.size + 0 ≤ H.size := by omega
  refine g_top (y := 0) (by decide +kernel) ?_
  refine lv_if_ne (tgt := 16) S.1 S.2.1 dL_act_9 (by decide) (fun c1 => absurd c1 (by decide)) (fun _ => ?_)
  refine lv_iconst (v := 1) S.1 S.2.1 dL_act_12 (by decide) ?_
  refine lv_goto (tgt := 17) S.1 S.2.1 dL_act_13 (by decide) ?_
  refine lv_istore_n (lv' := [(2, .int 1), (0, .ref h), (1, .int 136)]) S.1 S.2.1 dL_act_17 rfl hl (by decide) rfl (fun ls hl => ?_)
  refine lv_iload_n S.1 S.2.1 dL_act_18 rfl (lv_at hl 0 rfl) ?_
  refine lv_if_eq (tgt := 35) S.1 S.2.1 dL_act_19 (by decide) (fun c1 => absurd c1 (by decide)) (fun _ => ?_)
  refine lv_iload_n S.1 S.2.1 dL_act_22 rfl (lv_at hl 2 rfl) ?_
  refine lv_iconst (v := 4) S.1 S.2.1 dL_act_23 (by decide) ?_
  refine lv_ishr S.1 S.2.1 dL_act_24 ?_
  refine g_top (y := 8) (by decide +kernel) ?_
  refine lv_bipush (v := 14) S.1 S.2.1 dL_act_25 (by decide) ?_
  refine g_low5 (v := g_lo 8 14) (As := [.int 8, .int 14]) (rest := []) S I Z (tL_low l sa D cI cC cZ 8 14 (by decide)) (va_cwS 2 S.2.2.2.2 gL_act_L_low rfl rfl rfl (by decide +kernel) ⟨Nat.le_of_ble_eq_true rfl, Nat.le_of_ble_eq_true rfl⟩) hl rfl (Nat.le_of_ble_eq_true rfl) ⟨(Nat.le_of_ble_eq_true rfl), (Nat.le_of_ble_eq_true rfl)⟩ dL_act_27 (fun H locs I hg => ?_)
  replace hz : s.heap.size + 0 ≤ H.size := by omega
  refine g_top (y := 8) (by decide +kernel) ?_
  refine lv_iconst (v := 2) S.1 S.2.1 dL_act_30 (by decide) ?_
  refine lv_isub S.1 S.2.1 dL_act_31 ?_
  refine g_top (y := 6) (by decide +kernel) ?_
  refine lv_goto (tgt := 42) S.1 S.2.1 dL_act_32 (by decide) ?_
  refine lv_istore_n (lv' := [(3, .int 6), (2, .int 1), (0, .ref h), (1, .int 136)]) S.1 S.2.1 dL_act_42 rfl hl (by decide) rfl (fun ls hl => ?_)
  refine lv_iload_n S.1 S.2.1 dL_act_43 rfl (lv_at hl 1 rfl) ?_
  refine lv_if_eq (tgt := 61) S.1 S.2.1 dL_act_44 (by decide) (fun c1 => absurd c1 (by decide)) (fun _ => ?_)
  refine lv_iload_n S.1 S.2.1 dL_act_47 rfl (lv_at hl 3 rfl) ?_
  refine lv_bipush (v := 7) S.1 S.2.1 dL_act_48 (by decide) ?_
  refine lv_ishr S.1 S.2.1 dL_act_50 ?_
  refine g_top (y := 1) (by decide +kernel) ?_
  refine lv_bipush (v := 14) S.1 S.2.1 dL_act_51 (by decide) ?_
  refine g_low5 (v := g_lo 1 14) (As := [.int 1, .int 14]) (rest := []) S I Z (tL_low l sa D cI cC cZ 1 14 (by decide)) (va_cwS 2 S.2.2.2.2 gL_act_L_low rfl rfl rfl (by decide +kernel) ⟨Nat.le_of_ble_eq_true rfl, Nat.le_of_ble_eq_true rfl⟩) hl rfl (Nat.le_of_ble_eq_true rfl) ⟨(Nat.le_of_ble_eq_true rfl), (Nat.le_of_ble_eq_true rfl)⟩ dL_act_53 (fun H locs I hg => ?_)
  replace hz : s.heap.size + 0 ≤ H.size := by omega
  refine g_top (y := 1) (by decide +kernel) ?_
  refine lv_iconst (v := 2) S.1 S.2.1 dL_act_56 (by decide) ?_
  refine lv_isub S.1 S.2.1 dL_act_57 ?_
  refine g_top (y := (-1)) (by decide +kernel) ?_
  refine lv_goto (tgt := 69) S.1 S.2.1 dL_act_58 (by decide) ?_
  refine lv_istore (lv' := [(4, .int (-1)), (3, .int 6), (2, .int 1), (0, .ref h), (1, .int 136)]) S.1 S.2.1 dL_act_69 hl (by decide) rfl (fun ls hl => ?_)
  refine lv_iload_n S.1 S.2.1 dL_act_71 rfl (lv_at hl 2 rfl) ?_
  refine lv_if_eq (tgt := 81) S.1 S.2.1 dL_act_72 (by decide) (fun c1 => absurd c1 (by decide)) (fun _ => ?_)
  refine lv_iload_n S.1 S.2.1 dL_act_75 rfl (lv_at hl 4 rfl) ?_
  refine lv_iconst (v := 5) S.1 S.2.1 dL_act_76 (by decide) ?_
  refine lv_ishr S.1 S.2.1 dL_act_77 ?_
  refine g_top (y := 4) (by decide +kernel) ?_
  refine lv_goto (tgt := 89) S.1 S.2.1 dL_act_78 (by decide) ?_
  refine lv_istore (lv' := [(5, .int 4), (4, .int (-1)), (3, .int 6), (2, .int 1), (0, .ref h), (1, .int 136)]) S.1 S.2.1 dL_act_89 hl (by decide) rfl (fun ls hl => ?_)
  refine lv_iload_n S.1 S.2.1 dL_act_91 rfl (lv_at hl 3 rfl) ?_
  refine lv_if_eq (tgt := 109) S.1 S.2.1 dL_act_92 (by decide) (fun c1 => absurd c1 (by decide)) (fun _ => ?_)
  refine lv_iload_n S.1 S.2.1 dL_act_95 rfl (lv_at hl 5 rfl) ?_
  refine lv_bipush (v := 9) S.1 S.2.1 dL_act_96 (by decide) ?_
  refine lv_ishr S.1 S.2.1 dL_act_98 ?_
  refine g_top (y := 0) (by decide +kernel) ?_
  refine lv_bipush (v := 9) S.1 S.2.1 dL_act_99 (by decide) ?_
  refine g_low5 (v := g_lo 0 9) (As := [.int 0, .int 9]) (rest := []) S I Z (tL_low l sa D cI cC cZ 0 9 (by decide)) (va_cwS 2 S.2.2.2.2 gL_act_L_low rfl rfl rfl (by decide +kernel) ⟨Nat.le_of_ble_eq_true rfl, Nat.le_of_ble_eq_true rfl⟩) hl rfl (Nat.le_of_ble_eq_true rfl) ⟨(Nat.le_of_ble_eq_true rfl), (Nat.le_of_ble_eq_true rfl)⟩ dL_act_101 (fun H locs I hg => ?_)
  replace hz : s.heap.size + 0 ≤ H.size := by omega
  refine g_top (y := 0) (by decide +kernel) ?_
  refine lv_iconst (v := 1) S.1 S.2.1 dL_act_104 (by decide) ?_
  refine lv_isub S.1 S.2.1 dL_act_105 ?_
  refine g_top (y := (-1)) (by decide +kernel) ?_
  refine lv_goto (tgt := 119) S.1 S.2.1 dL_act_106 (by decide) ?_
  refine lv_istore (lv' := [(6, .int (-1)), (5, .int 4), (4, .int (-1)), (3, .int 6), (2, .int 1), (0, .ref h), (1, .int 136)]) S.1 S.2.1 dL_act_119 hl (by decide) rfl (fun ls hl => ?_)
  refine lv_iload_n S.1 S.2.1 dL_act_121 rfl (lv_at hl 4 rfl) ?_
  refine lv_if_eq (tgt := 139) S.1 S.2.1 dL_act_122 (by decide) (fun c1 => absurd c1 (by decide)) (fun _ => ?_)
  refine lv_iload_n S.1 S.2.1 dL_act_125 rfl (lv_at hl 6 rfl) ?_
  refine lv_bipush (v := 11) S.1 S.2.1 dL_act_126 (by decide) ?_
  refine lv_ishr S.1 S.2.1 dL_act_128 ?_
  refine g_top (y := 0) (by decide +kernel) ?_
  refine lv_bipush (v := 9) S.1 S.2.1 dL_act_129 (by decide) ?_
  refine g_low5 (v := g_lo 0 9) (As := [.int 0, .int 9]) (rest := []) S I Z (tL_low l sa D cI cC cZ 0 9 (by decide)) (va_cwS 2 S.2.2.2.2 gL_act_L_low rfl rfl rfl (by decide +kernel) ⟨Nat.le_of_ble_eq_true rfl, Nat.le_of_ble_eq_true rfl⟩) hl rfl (Nat.le_of_ble_eq_true rfl) ⟨(Nat.le_of_ble_eq_true rfl), (Nat.le_of_ble_eq_true rfl)⟩ dL_act_131 (fun H locs I hg => ?_)
  replace hz : s.heap.size + 0 ≤ H.size := by omega
  refine g_top (y := 0) (by decide +kernel) ?_
  refine lv_iconst (v := 2) S.1 S.2.1 dL_act_134 (by decide) ?_
  refine lv_isub S.1 S.2.1 dL_act_135 ?_
  refine g_top (y := (-2)) (by decide +kernel) ?_
  refine lv_goto (tgt := 147) S.1 S.2.1 dL_act_136 (by decide) ?_
  refine lv_istore (lv' := [(7, .int (-2)), (6, .int (-1)), (5, .int 4), (4, .int (-1)), (3, .int 6), (2, .int 1), (0, .ref h), (1, .int 136)]) S.1 S.2.1 dL_act_147 hl (by decide) rfl (fun ls hl => ?_)
  refine lv_iload_n S.1 S.2.1 dL_act_149 rfl (lv_at hl 7 rfl) ?_
  refine lv_bipush (v := 40) S.1 S.2.1 dL_act_150 (by decide) ?_
  refine g_low5 (v := g_lo 136 40) (As := [.int 136, .int 40]) (rest := []) S I Z (tL_low l sa D cI cC cZ 136 40 (by decide)) (va_cwS 2 S.2.2.2.2 gL_act_L_low rfl rfl rfl (by decide +kernel) ⟨Nat.le_of_ble_eq_true rfl, Nat.le_of_ble_eq_true rfl⟩) hl rfl (Nat.le_of_ble_eq_true rfl) ⟨(Nat.le_of_ble_eq_true rfl), (Nat.le_of_ble_eq_true rfl)⟩ dL_act_152 (fun H locs I hg => ?_)
  replace hz : s.heap.size + 0 ≤ H.size := by omega
  refine g_top (y := 16) (by decide +kernel) ?_
  refine lv_tableIn (off := 275) (tgt := 430) S.1 S.2.1 dL_act_155 (by decide) (by decide) rfl (by decide) ?_
  refine lv_aload_n S.1 S.2.1 dL_act_430 rfl (lv_at hl 6 rfl) ?_
  refine g_h5 (v := -99999999) (As := [.ref h]) (rest := []) S I Z (tL_principle l hlf sa D cI cC cZ h a b d z q) (vx_cwSW 1 S.2.2.2.2 gL_act_L_principle rfl rfl rfl (by decide +kernel) ⟨Nat.le_of_ble_eq_true rfl, Nat.le_of_ble_eq_true rfl⟩) hl rfl (Nat.le_of_ble_eq_true rfl) ⟨(Nat.le_of_ble_eq_true rfl), (Nat.le_of_ble_eq_true rfl)⟩ dL_act_431 (fun H locs I hg => ?_)
  replace hz : s.heap.size + 1 ≤ H.size := by omega
  exact g_ret S E rfl rfl I hz dL_act_434
end GACT
