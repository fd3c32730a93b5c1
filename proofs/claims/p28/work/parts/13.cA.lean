set_option maxHeartbeats 4000000 in
set_option maxRecDepth 100000 in
theorem tX5_isBelow (l : Launch) (D : va_G) (cI cC cZ : ClassId) (p1 p2 : Int32) (res : Int32) (hf : fX5_isBelow p1 p2 = some res) : xC l yX5_isBelow wsX5_isBelow rmX5_isBelow D [.int p1, .int p2] [] (fun _ => []) (xT cI cC cZ) (fun t => some (.int t)) res := by
  refine x_of (cc := cX5_isBelow) (maxL := 2) (ret := (some .boolean)) (by decide) rfl (Nat.le_of_ble_eq_true rfl) ?_
  intro p e s m args below meth c A Q ls S I E hl
  replace hl : lv_has ls 2 [(0, .int p1), (1, .int p2)] := hl
  replace hf := (fX5_isBelow_e _ _).symm.trans hf
  refine lv_iload_n S.1 S.2.1 dX5_isBelow_0 rfl (lv_at hl 0 rfl) ?_
  refine lv_if_lt (tgt := 13) S.1 S.2.1 dX5_isBelow_1 (by decide) (fun c1 => ?_) (fun c1 => ?_)
  · replace hf := x_ifT hf c1
    refine lv_iconst (v := 0) S.1 S.2.1 dX5_isBelow_13 (by decide) ?_
    exact x_ri E rfl x_n0 hf rfl I rfl dX5_isBelow_14
  · replace hf := x_ifF hf c1
    refine lv_iload_n S.1 S.2.1 dX5_isBelow_4 rfl (lv_at hl 0 rfl) ?_
    refine lv_iload_n S.1 S.2.1 dX5_isBelow_5 rfl (lv_at hl 1 rfl) ?_
    refine lv_icmp_ge (tgt := 13) S.1 S.2.1 dX5_isBelow_6 (by decide) (fun c2 => ?_) (fun c2 => ?_)
    · replace hf := x_ifT hf c2
      refine lv_iconst (v := 0) S.1 S.2.1 dX5_isBelow_13 (by decide) ?_
      exact x_ri E rfl x_n0 hf rfl I rfl dX5_isBelow_14
    · replace hf := x_ifF hf c2
      refine lv_iconst (v := 1) S.1 S.2.1 dX5_isBelow_9 (by decide) ?_
      refine lv_goto (tgt := 14) S.1 S.2.1 dX5_isBelow_10 (by decide) ?_
      exact x_ri E rfl x_n1 hf rfl I rfl dX5_isBelow_14
set_option maxHeartbeats 4000000 in
set_option maxRecDepth 100000 in
theorem tX5_isBetween (l : Launch) (D : va_G) (cI cC cZ : ClassId) (p1 p2 p3 : Int32) (res : Int32) (hf : fX5_isBetween p1 p2 p3 = some res) : xC l yX5_isBetween wsX5_isBetween rmX5_isBetween D [.int p1, .int p2, .int p3] [] (fun _ => []) (xT cI cC cZ) (fun t => some (.int t)) res := by
  refine x_of (cc := cX5_isBetween) (maxL := 3) (ret := (some .boolean)) (by decide) rfl (Nat.le_of_ble_eq_true rfl) ?_
  intro p e s m args below meth c A Q ls S I E hl
  replace hl : lv_has ls 3 [(0, .int p1), (1, .int p2), (2, .int p3)] := hl
  replace hf := (fX5_isBetween_e _ _ _).symm.trans hf
  refine lv_iload_n S.1 S.2.1 dX5_isBetween_0 rfl (lv_at hl 1 rfl) ?_
  refine lv_iload_n S.1 S.2.1 dX5_isBetween_1 rfl (lv_at hl 0 rfl) ?_
  refine lv_icmp_lt (tgt := 14) S.1 S.2.1 dX5_isBetween_2 (by decide) (fun c1 => ?_) (fun c1 => ?_)
  · replace hf := x_ifT hf c1
    refine lv_iconst (v := 0) S.1 S.2.1 dX5_isBetween_14 (by decide) ?_
    exact x_ri E rfl x_n0 hf rfl I rfl dX5_isBetween_15
  · replace hf := x_ifF hf c1
    refine lv_iload_n S.1 S.2.1 dX5_isBetween_5 rfl (lv_at hl 1 rfl) ?_
    refine lv_iload_n S.1 S.2.1 dX5_isBetween_6 rfl (lv_at hl 2 rfl) ?_
    refine lv_icmp_gt (tgt := 14) S.1 S.2.1 dX5_isBetween_7 (by decide) (fun c2 => ?_) (fun c2 => ?_)
    · replace hf := x_ifT hf c2
      refine lv_iconst (v := 0) S.1 S.2.1 dX5_isBetween_14 (by decide) ?_
      exact x_ri E rfl x_n0 hf rfl I rfl dX5_isBetween_15
    · replace hf := x_ifF hf c2
      refine lv_iconst (v := 1) S.1 S.2.1 dX5_isBetween_10 (by decide) ?_
      refine lv_goto (tgt := 15) S.1 S.2.1 dX5_isBetween_11 (by decide) ?_
      exact x_ri E rfl x_n1 hf rfl I rfl dX5_isBetween_15
set_option maxHeartbeats 4000000 in
set_option maxRecDepth 100000 in
theorem tJ6_bitCount_0f7a4 (l : Launch) (D : va_G) (cI cC cZ : ClassId) (p1 : Int32) (res : Int32) (hf : fJ6_bitCount_0f7a4 p1 = some res) : xC l yJ6_bitCount_0f7a4 wsJ6_bitCount_0f7a4 rmJ6_bitCount_0f7a4 D [.int p1] [] (fun _ => []) (xT cI cC cZ) (fun t => some (.int t)) res := by
  refine x_of (cc := cJ6_bitCount_0f7a4) (maxL := 1) (ret := (some .int)) (by decide) rfl (Nat.le_of_ble_eq_true rfl) ?_
  intro p e s m args below meth c A Q ls S I E hl
  replace hl : lv_has ls 1 [(0, .int p1)] := hl
  replace hf := (fJ6_bitCount_0f7a4_e _).symm.trans hf
  refine lv_iload_n S.1 S.2.1 dJ6_bitCount_0f7a4_0 rfl (lv_at hl 0 rfl) ?_
  refine lv_iload_n S.1 S.2.1 dJ6_bitCount_0f7a4_1 rfl (lv_at hl 0 rfl) ?_
  refine lv_iconst (v := 1) S.1 S.2.1 dJ6_bitCount_0f7a4_2 (by decide) ?_
  refine lv_iushr (v := (x_ush p1 1)) S.1 S.2.1 dJ6_bitCount_0f7a4_3 rfl ?_
  refine lv_ldcw (v := 1431655765) S.1 S.2.1 S.2.2.2.1 (S.2.2.2.2 _ (by decide +kernel)) dJ6_bitCount_0f7a4_4 ?_
  refine lv_iand S.1 S.2.1 dJ6_bitCount_0f7a4_7 ?_
  refine lv_isub S.1 S.2.1 dJ6_bitCount_0f7a4_8 ?_
  refine lv_istore_n (lv' := [(0, .int (p1 - ((x_ush p1 1) &&& 1431655765)))]) S.1 S.2.1 dJ6_bitCount_0f7a4_9 rfl hl (by decide) rfl (fun ls hl => ?_)
  refine lv_iload_n S.1 S.2.1 dJ6_bitCount_0f7a4_10 rfl (lv_at hl 0 rfl) ?_
  refine lv_ldcw (v := 858993459) S.1 S.2.1 S.2.2.2.1 (S.2.2.2.2 _ (by decide +kernel)) dJ6_bitCount_0f7a4_11 ?_
  refine lv_iand S.1 S.2.1 dJ6_bitCount_0f7a4_14 ?_
  refine lv_iload_n S.1 S.2.1 dJ6_bitCount_0f7a4_15 rfl (lv_at hl 0 rfl) ?_
  refine lv_iconst (v := 2) S.1 S.2.1 dJ6_bitCount_0f7a4_16 (by decide) ?_
  refine lv_iushr (v := (x_ush (p1 - ((x_ush p1 1) &&& 1431655765)) 2)) S.1 S.2.1 dJ6_bitCount_0f7a4_17 rfl ?_
  refine lv_ldcw (v := 858993459) S.1 S.2.1 S.2.2.2.1 (S.2.2.2.2 _ (by decide +kernel)) dJ6_bitCount_0f7a4_18 ?_
  refine lv_iand S.1 S.2.1 dJ6_bitCount_0f7a4_21 ?_
  refine lv_iadd S.1 S.2.1 dJ6_bitCount_0f7a4_22 ?_
  refine lv_istore_n (lv' := [(0, .int (((p1 - ((x_ush p1 1) &&& 1431655765)) &&& 858993459) + ((x_ush (p1 - ((x_ush p1 1) &&& 1431655765)) 2) &&& 858993459)))]) S.1 S.2.1 dJ6_bitCount_0f7a4_23 rfl hl (by decide) rfl (fun ls hl => ?_)
  refine lv_iload_n S.1 S.2.1 dJ6_bitCount_0f7a4_24 rfl (lv_at hl 0 rfl) ?_
  refine lv_iload_n S.1 S.2.1 dJ6_bitCount_0f7a4_25 rfl (lv_at hl 0 rfl) ?_
  refine lv_iconst (v := 4) S.1 S.2.1 dJ6_bitCount_0f7a4_26 (by decide) ?_
  refine lv_iushr (v := (x_ush (((p1 - ((x_ush p1 1) &&& 1431655765)) &&& 858993459) + ((x_ush (p1 - ((x_ush p1 1) &&& 1431655765)) 2) &&& 858993459)) 4)) S.1 S.2.1 dJ6_bitCount_0f7a4_27 rfl ?_
  refine lv_iadd S.1 S.2.1 dJ6_bitCount_0f7a4_28 ?_
  refine lv_ldcw (v := 252645135) S.1 S.2.1 S.2.2.2.1 (S.2.2.2.2 _ (by decide +kernel)) dJ6_bitCount_0f7a4_29 ?_
  refine lv_iand S.1 S.2.1 dJ6_bitCount_0f7a4_32 ?_
  refine lv_istore_n (lv' := [(0, .int (((((p1 - ((x_ush p1 1) &&& 1431655765)) &&& 858993459) + ((x_ush (p1 - ((x_ush p1 1) &&& 1431655765)) 2) &&& 858993459)) + (x_ush (((p1 - ((x_ush p1 1) &&& 1431655765)) &&& 858993459) + ((x_ush (p1 - ((x_ush p1 1) &&& 1431655765)) 2) &&& 858993459)) 4)) &&& 252645135))]) S.1 S.2.1 dJ6_bitCount_0f7a4_33 rfl hl (by decide) rfl (fun ls hl => ?_)
  refine lv_iload_n S.1 S.2.1 dJ6_bitCount_0f7a4_34 rfl (lv_at hl 0 rfl) ?_
  refine lv_iload_n S.1 S.2.1 dJ6_bitCount_0f7a4_35 rfl (lv_at hl 0 rfl) ?_
  refine lv_bipush (v := 8) S.1 S.2.1 dJ6_bitCount_0f7a4_36 (by decide) ?_
  refine lv_iushr (v := (x_ush (((((p1 - ((x_ush p1 1) &&& 1431655765)) &&& 858993459) + ((x_ush (p1 - ((x_ush p1 1) &&& 1431655765)) 2) &&& 858993459)) + (x_ush (((p1 - ((x_ush p1 1) &&& 1431655765)) &&& 858993459) + ((x_ush (p1 - ((x_ush p1 1) &&& 1431655765)) 2) &&& 858993459)) 4)) &&& 252645135) 8)) S.1 S.2.1 dJ6_bitCount_0f7a4_38 rfl ?_
  refine lv_iadd S.1 S.2.1 dJ6_bitCount_0f7a4_39 ?_
  refine lv_istore_n (lv' := [(0, .int ((((((p1 - ((x_ush p1 1) &&& 1431655765)) &&& 858993459) + ((x_ush (p1 - ((x_ush p1 1) &&& 1431655765)) 2) &&& 858993459)) + (x_ush (((p1 - ((x_ush p1 1) &&& 1431655765)) &&& 858993459) + ((x_ush (p1 - ((x_ush p1 1) &&& 1431655765)) 2) &&& 858993459)) 4)) &&& 252645135) + (x_ush (((((p1 - ((x_ush p1 1) &&& 1431655765)) &&& 858993459) + ((x_ush (p1 - ((x_ush p1 1) &&& 1431655765)) 2) &&& 858993459)) + (x_ush (((p1 - ((x_ush p1 1) &&& 1431655765)) &&& 858993459) + ((x_ush (p1 - ((x_ush p1 1) &&& 1431655765)) 2) &&& 858993459)) 4)) &&& 252645135) 8)))]) S.1 S.2.1 dJ6_bitCount_0f7a4_40 rfl hl (by decide) rfl (fun ls hl => ?_)
  refine lv_iload_n S.1 S.2.1 dJ6_bitCount_0f7a4_41 rfl (lv_at hl 0 rfl) ?_
  refine lv_iload_n S.1 S.2.1 dJ6_bitCount_0f7a4_42 rfl (lv_at hl 0 rfl) ?_
  refine lv_bipush (v := 16) S.1 S.2.1 dJ6_bitCount_0f7a4_43 (by decide) ?_
  refine lv_iushr (v := (x_ush ((((((p1 - ((x_ush p1 1) &&& 1431655765)) &&& 858993459) + ((x_ush (p1 - ((x_ush p1 1) &&& 1431655765)) 2) &&& 858993459)) + (x_ush (((p1 - ((x_ush p1 1) &&& 1431655765)) &&& 858993459) + ((x_ush (p1 - ((x_ush p1 1) &&& 1431655765)) 2) &&& 858993459)) 4)) &&& 252645135) + (x_ush (((((p1 - ((x_ush p1 1) &&& 1431655765)) &&& 858993459) + ((x_ush (p1 - ((x_ush p1 1) &&& 1431655765)) 2) &&& 858993459)) + (x_ush (((p1 - ((x_ush p1 1) &&& 1431655765)) &&& 858993459) + ((x_ush (p1 - ((x_ush p1 1) &&& 1431655765)) 2) &&& 858993459)) 4)) &&& 252645135) 8)) 16)) S.1 S.2.1 dJ6_bitCount_0f7a4_45 rfl ?_
  refine lv_iadd S.1 S.2.1 dJ6_bitCount_0f7a4_46 ?_
  refine lv_istore_n (lv' := [(0, .int (((((((p1 - ((x_ush p1 1) &&& 1431655765)) &&& 858993459) + ((x_ush (p1 - ((x_ush p1 1) &&& 1431655765)) 2) &&& 858993459)) + (x_ush (((p1 - ((x_ush p1 1) &&& 1431655765)) &&& 858993459) + ((x_ush (p1 - ((x_ush p1 1) &&& 1431655765)) 2) &&& 858993459)) 4)) &&& 252645135) + (x_ush (((((p1 - ((x_ush p1 1) &&& 1431655765)) &&& 858993459) + ((x_ush (p1 - ((x_ush p1 1) &&& 1431655765)) 2) &&& 858993459)) + (x_ush (((p1 - ((x_ush p1 1) &&& 1431655765)) &&& 858993459) + ((x_ush (p1 - ((x_ush p1 1) &&& 1431655765)) 2) &&& 858993459)) 4)) &&& 252645135) 8)) + (x_ush ((((((p1 - ((x_ush p1 1) &&& 1431655765)) &&& 858993459) + ((x_ush (p1 - ((x_ush p1 1) &&& 1431655765)) 2) &&& 858993459)) + (x_ush (((p1 - ((x_ush p1 1) &&& 1431655765)) &&& 858993459) + ((x_ush (p1 - ((x_ush p1 1) &&& 1431655765)) 2) &&& 858993459)) 4)) &&& 252645135) + (x_ush (((((p1 - ((x_ush p1 1) &&& 1431655765)) &&& 858993459) + ((x_ush (p1 - ((x_ush p1 1) &&& 1431655765)) 2) &&& 858993459)) + (x_ush (((p1 - ((x_ush p1 1) &&& 1431655765)) &&& 858993459) + ((x_ush (p1 - ((x_ush p1 1) &&& 1431655765)) 2) &&& 858993459)) 4)) &&& 252645135) 8)) 16)))]) S.1 S.2.1 dJ6_bitCount_0f7a4_47 rfl hl (by decide) rfl (fun ls hl => ?_)
  refine lv_iload_n S.1 S.2.1 dJ6_bitCount_0f7a4_48 rfl (lv_at hl 0 rfl) ?_
  refine lv_bipush (v := 63) S.1 S.2.1 dJ6_bitCount_0f7a4_49 (by decide) ?_
  refine lv_iand S.1 S.2.1 dJ6_bitCount_0f7a4_51 ?_
  exact x_ri E rfl rfl hf rfl I rfl dJ6_bitCount_0f7a4_52
