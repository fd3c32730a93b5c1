set_option maxHeartbeats 4000000 in
set_option maxRecDepth 100000 in
theorem tLaw_14 (l : Launch) (hlf : l.stackTraces = false) (sa : Nat → Nat) (D : va_G) (cI cC cZ cL : ClassId) (h o hm : Nat) (a b d z q am : Nat → Nat) (Fp : xF) (Gp : xG) (Fo : xF) (Go : xG) (Fz : xF) (Gz : xG) (Fq : xF) (Gq : xG) (f : Nat → Int64) (F : xF) (G : xG) {p : Program} {e : Env} {s : State} {m : MethodId} {args : Array Value} {below : List Frame} {meth : Method} {c : Code} {A : Nat → Prop} {Q : State → Prop} {H : Heap} {locs : List Loc} {cells slots : Nat} {ls : Array Slot} {b0 L : Nat} {xs : Nat → Int32} {i : Int32} (S : CallFix p m c cL_law 7 s args wsL_law RL) (Z : yZ sa A s s.heap) (hX : va_X b0 L xs s s.heap) (hbl : b0 < s.heap.size) (hbA : ¬ A b0) (I : xI D A s (wL cI cC cZ cL h a b d z q Fp Gp Fo Go Fz Gz Fq Gq o f hm am F G) (xTL cI cC cZ cL) H locs) (hl : lv_has ls 7 [(4, .int i), (3, .ref o), (2, .ref hm), (1, .ref h), (0, .ref b0)]) (hcs : cells + 1 ≤ 1108 ∧ slots + 6 ≤ 19580) (hi1 : vp_in (i + 1) L) (hi2 : vp_in (i + 2) L) {k r r' : Int32}  {F' : xF} (hx9 : ¬ k = 0 → ¬ k = 1 → k = 2) (hfx : fX5_least Fz Gz (xs (i + 1).toNatClampNeg) (xs (i + 2).toNatClampNeg) = some (k, r)) (hfm : fX6_least F G (xs (i + 1).toNatClampNeg) (xs (i + 2).toNatClampNeg) = some (r', F')) (ht : fX6_thrown F' = some k) (hv : k = 0 → r = r') (kk : ∀ (H1 : Heap) (locs1 : List Loc) (ls1 : Array Slot) (f1 : Nat → Int64), xI D A s (wL cI cC cZ cL h a b d z q Fp Gp Fo Go Fz Gz Fq Gq o f1 hm am F' G) (xTL cI cC cZ cL) H1 locs1 → lv_has ls1 7 [(4, .int i), (3, .ref o), (2, .ref hm), (1, .ref h), (0, .ref b0)] → W p l e room_1 s m args below meth c H1 locs1 (cells + 1) (slots + 6) Q (F0 m 1545 ls1 [])) : W p l e room_1 s m args below meth c H locs cells slots Q (F0 m 759 ls []) := by
  refine lv_aload_n S.1 S.2.1 dL_law_759 rfl (lv_at hl 3 rfl) ?_
  refine lv_aload_n S.1 S.2.1 dL_law_760 rfl (lv_at hl 4 rfl) ?_
  refine lv_iload S.1 S.2.1 dL_law_761 (lv_at hl 0 rfl) ?_
  refine lv_iconst (v := 1) S.1 S.2.1 dL_law_763 (by decide) ?_
  refine lv_iadd S.1 S.2.1 dL_law_764 ?_
  refine l_sld S I hX hbl hbA hi1 dL_law_765 ?_
  refine lv_aload_n S.1 S.2.1 dL_law_766 rfl (lv_at hl 4 rfl) ?_
  refine lv_iload S.1 S.2.1 dL_law_767 (lv_at hl 0 rfl) ?_
  refine lv_iconst (v := 2) S.1 S.2.1 dL_law_769 (by decide) ?_
  refine lv_iadd S.1 S.2.1 dL_law_770 ?_
  refine l_sld S I hX hbl hbA hi2 dL_law_771 ?_
  refine lv_aload_n S.1 S.2.1 dL_law_772 rfl (lv_at hl 1 rfl) ?_
  refine l_c7 (As := [.ref h, .int (xs (i + 1).toNatClampNeg), .int (xs (i + 2).toNatClampNeg), .ref o]) (rest := []) (Fp' := Fp) (Gp' := Gp) (Fo' := Fo) (Go' := Go) (Fz' := Fz) (Gz' := Gz) (Fq' := Fq) (Gq' := Gq) (f' := (if k = 0 then vp_updL f 0 r.toInt64 else f)) S I Z (tL_least l hlf sa D cI cC cZ cL h o a b d z q Fp Gp Fo Go Fz Gz Fq Gq f (xs (i + 1).toNatClampNeg) (xs (i + 2).toNatClampNeg) (k, r) hx9 hfx) rfl (vx_cwSW 4 S.2.2.2.2 gL_law_L_least rfl rfl rfl (by decide +kernel) ⟨Nat.le_of_ble_eq_true rfl, Nat.le_of_ble_eq_true rfl⟩) hl rfl (Nat.le_of_ble_eq_true rfl) hcs dL_law_773 (fun H locs I => ?_)
  refine W.eq (g2 := F0 m 776 ls [.int k]) rfl ?_
  refine lv_istore (lv' := [(5, .int k), (4, .int i), (3, .ref o), (2, .ref hm), (1, .ref h), (0, .ref b0)]) S.1 S.2.1 dL_law_776 hl (by decide) rfl (fun ls hl => ?_)
  refine lv_aload_n S.1 S.2.1 dL_law_778 rfl (lv_at hl 3 rfl) ?_
  refine lv_aload_n S.1 S.2.1 dL_law_779 rfl (lv_at hl 5 rfl) ?_
  refine lv_iload S.1 S.2.1 dL_law_780 (lv_at hl 1 rfl) ?_
  refine lv_iconst (v := 1) S.1 S.2.1 dL_law_782 (by decide) ?_
  refine lv_iadd S.1 S.2.1 dL_law_783 ?_
  refine l_sld S I hX hbl hbA hi1 dL_law_784 ?_
  refine lv_aload_n S.1 S.2.1 dL_law_785 rfl (lv_at hl 5 rfl) ?_
  refine lv_iload S.1 S.2.1 dL_law_786 (lv_at hl 1 rfl) ?_
  refine lv_iconst (v := 2) S.1 S.2.1 dL_law_788 (by decide) ?_
  refine lv_iadd S.1 S.2.1 dL_law_789 ?_
  refine l_sld S I hX hbl hbA hi2 dL_law_790 ?_
  refine l_c6 (As := [.int (xs (i + 1).toNatClampNeg), .int (xs (i + 2).toNatClampNeg)]) (rest := []) (st' := [.int r']) (F' := F') (G' := G) S I (tX6_least l D cI cC cZ hm am F G (xs (i + 1).toNatClampNeg) (xs (i + 2).toNatClampNeg) (r', F') hfm) rfl (cwV 2 S.2.2.2.2 gL_law_X6_least rfl rfl rfl (by decide +kernel) ⟨Nat.le_of_ble_eq_true rfl, Nat.le_of_ble_eq_true rfl⟩) hl rfl (Nat.le_of_ble_eq_true rfl) hcs rfl dL_law_791 (fun H locs I => ?_)
  refine lv_istore (lv' := [(6, .int r'), (5, .int k), (4, .int i), (3, .ref o), (2, .ref hm), (1, .ref h), (0, .ref b0)]) S.1 S.2.1 dL_law_794 hl (by decide) rfl (fun ls hl => ?_)
  refine lv_aload_n S.1 S.2.1 dL_law_796 rfl (lv_at hl 4 rfl) ?_
  refine l_c6 (As := []) (rest := []) (st' := [.int k]) (F' := F') (G' := G) S I (tX6_thrown l D cI cC cZ hm am F' G k ht) rfl (cwV 0 S.2.2.2.2 gL_law_X6_thrown rfl rfl rfl (by decide +kernel) ⟨Nat.le_of_ble_eq_true rfl, Nat.le_of_ble_eq_true rfl⟩) hl rfl (Nat.le_of_ble_eq_true rfl) hcs rfl dL_law_797 (fun H locs I => ?_)
  refine lv_iload S.1 S.2.1 dL_law_800 (lv_at hl 1 rfl) ?_
  refine lv_icmp_eq (tgt := 807) S.1 S.2.1 dL_law_802 (by decide) (fun c1 => ?_) (fun c1 => absurd rfl c1)
  refine lv_iload S.1 S.2.1 dL_law_807 (lv_at hl 1 rfl) ?_
  refine lv_if_ne (tgt := 824) S.1 S.2.1 dL_law_809 (by decide) (fun c2 => ?_) (fun c2 => ?_)
  · refine lv_goto (tgt := 1545) S.1 S.2.1 dL_law_824 (by decide) ?_
    exact kk _ _ _ _ I (lv_sub hl [2, 3, 4, 5, 6] rfl)
  refine lv_aload_n S.1 S.2.1 dL_law_812 rfl (lv_at hl 3 rfl) ?_
  refine lv_iconst (v := 0) S.1 S.2.1 dL_law_813 (by decide) ?_
  refine l_c8 S I dL_law_814 ?_
  refine lv_iload S.1 S.2.1 dL_law_815 (lv_at hl 0 rfl) ?_
  refine lv_i2l (v := r'.toInt64) S.1 S.2.1 dL_law_817 rfl ?_
  refine W.lcmp S.1 S.2.1 dL_law_818 ?_
  refine lv_if_eq (tgt := 824) S.1 S.2.1 dL_law_819 (by decide) (fun c3 => ?_) (fun c3 => absurd (l_cmp0 ((l_f0 c2).trans (by rw [hv c2]))) c3)
  refine lv_goto (tgt := 1545) S.1 S.2.1 dL_law_824 (by decide) ?_
  exact kk _ _ _ _ I (lv_sub hl [2, 3, 4, 5, 6] rfl)
set_option maxHeartbeats 4000000 in
set_option maxRecDepth 100000 in
theorem tLaw_15 (l : Launch) (hlf : l.stackTraces = false) (sa : Nat → Nat) (D : va_G) (cI cC cZ cL : ClassId) (h o hm : Nat) (a b d z q am : Nat → Nat) (Fp : xF) (Gp : xG) (Fo : xF) (Go : xG) (Fz : xF) (Gz : xG) (Fq : xF) (Gq : xG) (f : Nat → Int64) (F : xF) (G : xG) {p : Program} {e : Env} {s : State} {m : MethodId} {args : Array Value} {below : List Frame} {meth : Method} {c : Code} {A : Nat → Prop} {Q : State → Prop} {H : Heap} {locs : List Loc} {cells slots : Nat} {ls : Array Slot} {b0 L : Nat} {xs : Nat → Int32} {i : Int32} (S : CallFix p m c cL_law 7 s args wsL_law RL) (Z : yZ sa A s s.heap) (hX : va_X b0 L xs s s.heap) (hbl : b0 < s.heap.size) (hbA : ¬ A b0) (I : xI D A s (wL cI cC cZ cL h a b d z q Fp Gp Fo Go Fz Gz Fq Gq o f hm am F G) (xTL cI cC cZ cL) H locs) (hl : lv_has ls 7 [(4, .int i), (3, .ref o), (2, .ref hm), (1, .ref h), (0, .ref b0)]) (hcs : cells + 1 ≤ 1108 ∧ slots + 6 ≤ 19580) (hi1 : vp_in (i + 1) L) (hi2 : vp_in (i + 2) L) {k r r' : Int32}  {F' : xF} (hx9 : ¬ k = 0 → ¬ k = 1 → k = 2) (hfx : fX5_leastAnew Fz Gz (xs (i + 1).toNatClampNeg) (xs (i + 2).toNatClampNeg) = some (k, r)) (hfm : fX6_leastAnew F G (xs (i + 1).toNatClampNeg) (xs (i + 2).toNatClampNeg) = some (r', F')) (ht : fX6_thrown F' = some k) (hv : k = 0 → r = r') (kk : ∀ (H1 : Heap) (locs1 : List Loc) (ls1 : Array Slot) (f1 : Nat → Int64), xI D A s (wL cI cC cZ cL h a b d z q Fp Gp Fo Go Fz Gz Fq Gq o f1 hm am F' G) (xTL cI cC cZ cL) H1 locs1 → lv_has ls1 7 [(4, .int i), (3, .ref o), (2, .ref hm), (1, .ref h), (0, .ref b0)] → W p l e room_1 s m args below meth c H1 locs1 (cells + 1) (slots + 6) Q (F0 m 1545 ls1 [])) : W p l e room_1 s m args below meth c H locs cells slots Q (F0 m 827 ls []) := by
  refine lv_aload_n S.1 S.2.1 dL_law_827 rfl (lv_at hl 3 rfl) ?_
  refine lv_aload_n S.1 S.2.1 dL_law_828 rfl (lv_at hl 4 rfl) ?_
  refine lv_iload S.1 S.2.1 dL_law_829 (lv_at hl 0 rfl) ?_
  refine lv_iconst (v := 1) S.1 S.2.1 dL_law_831 (by decide) ?_
  refine lv_iadd S.1 S.2.1 dL_law_832 ?_
  refine l_sld S I hX hbl hbA hi1 dL_law_833 ?_
  refine lv_aload_n S.1 S.2.1 dL_law_834 rfl (lv_at hl 4 rfl) ?_
  refine lv_iload S.1 S.2.1 dL_law_835 (lv_at hl 0 rfl) ?_
  refine lv_iconst (v := 2) S.1 S.2.1 dL_law_837 (by decide) ?_
  refine lv_iadd S.1 S.2.1 dL_law_838 ?_
  refine l_sld S I hX hbl hbA hi2 dL_law_839 ?_
  refine lv_aload_n S.1 S.2.1 dL_law_840 rfl (lv_at hl 1 rfl) ?_
  refine l_c7 (As := [.ref h, .int (xs (i + 1).toNatClampNeg), .int (xs (i + 2).toNatClampNeg), .ref o]) (rest := []) (Fp' := Fp) (Gp' := Gp) (Fo' := Fo) (Go' := Go) (Fz' := Fz) (Gz' := Gz) (Fq' := Fq) (Gq' := Gq) (f' := (if k = 0 then vp_updL f 0 r.toInt64 else f)) S I Z (tL_leastAnew l hlf sa D cI cC cZ cL h o a b d z q Fp Gp Fo Go Fz Gz Fq Gq f (xs (i + 1).toNatClampNeg) (xs (i + 2).toNatClampNeg) (k, r) hx9 hfx) rfl (vx_cwSW 4 S.2.2.2.2 gL_law_L_leastAnew rfl rfl rfl (by decide +kernel) ⟨Nat.le_of_ble_eq_true rfl, Nat.le_of_ble_eq_true rfl⟩) hl rfl (Nat.le_of_ble_eq_true rfl) hcs dL_law_841 (fun H locs I => ?_)
  refine W.eq (g2 := F0 m 844 ls [.int k]) rfl ?_
  refine lv_istore (lv' := [(5, .int k), (4, .int i), (3, .ref o), (2, .ref hm), (1, .ref h), (0, .ref b0)]) S.1 S.2.1 dL_law_844 hl (by decide) rfl (fun ls hl => ?_)
  refine lv_aload_n S.1 S.2.1 dL_law_846 rfl (lv_at hl 3 rfl) ?_
  refine lv_aload_n S.1 S.2.1 dL_law_847 rfl (lv_at hl 5 rfl) ?_
  refine lv_iload S.1 S.2.1 dL_law_848 (lv_at hl 1 rfl) ?_
  refine lv_iconst (v := 1) S.1 S.2.1 dL_law_850 (by decide) ?_
  refine lv_iadd S.1 S.2.1 dL_law_851 ?_
  refine l_sld S I hX hbl hbA hi1 dL_law_852 ?_
  refine lv_aload_n S.1 S.2.1 dL_law_853 rfl (lv_at hl 5 rfl) ?_
  refine lv_iload S.1 S.2.1 dL_law_854 (lv_at hl 1 rfl) ?_
  refine lv_iconst (v := 2) S.1 S.2.1 dL_law_856 (by decide) ?_
  refine lv_iadd S.1 S.2.1 dL_law_857 ?_
  refine l_sld S I hX hbl hbA hi2 dL_law_858 ?_
  refine l_c6 (As := [.int (xs (i + 1).toNatClampNeg), .int (xs (i + 2).toNatClampNeg)]) (rest := []) (st' := [.int r']) (F' := F') (G' := G) S I (tX6_leastAnew l D cI cC cZ hm am F G (xs (i + 1).toNatClampNeg) (xs (i + 2).toNatClampNeg) (r', F') hfm) rfl (cwV 2 S.2.2.2.2 gL_law_X6_leastAnew rfl rfl rfl (by decide +kernel) ⟨Nat.le_of_ble_eq_true rfl, Nat.le_of_ble_eq_true rfl⟩) hl rfl (Nat.le_of_ble_eq_true rfl) hcs rfl dL_law_859 (fun H locs I => ?_)
  refine lv_istore (lv' := [(6, .int r'), (5, .int k), (4, .int i), (3, .ref o), (2, .ref hm), (1, .ref h), (0, .ref b0)]) S.1 S.2.1 dL_law_862 hl (by decide) rfl (fun ls hl => ?_)
  refine lv_aload_n S.1 S.2.1 dL_law_864 rfl (lv_at hl 4 rfl) ?_
  refine l_c6 (As := []) (rest := []) (st' := [.int k]) (F' := F') (G' := G) S I (tX6_thrown l D cI cC cZ hm am F' G k ht) rfl (cwV 0 S.2.2.2.2 gL_law_X6_thrown rfl rfl rfl (by decide +kernel) ⟨Nat.le_of_ble_eq_true rfl, Nat.le_of_ble_eq_true rfl⟩) hl rfl (Nat.le_of_ble_eq_true rfl) hcs rfl dL_law_865 (fun H locs I => ?_)
  refine lv_iload S.1 S.2.1 dL_law_868 (lv_at hl 1 rfl) ?_
  refine lv_icmp_eq (tgt := 875) S.1 S.2.1 dL_law_870 (by decide) (fun c1 => ?_) (fun c1 => absurd rfl c1)
  refine lv_iload S.1 S.2.1 dL_law_875 (lv_at hl 1 rfl) ?_
  refine lv_if_ne (tgt := 892) S.1 S.2.1 dL_law_877 (by decide) (fun c2 => ?_) (fun c2 => ?_)
  · refine lv_goto (tgt := 1545) S.1 S.2.1 dL_law_892 (by decide) ?_
    exact kk _ _ _ _ I (lv_sub hl [2, 3, 4, 5, 6] rfl)
  refine lv_aload_n S.1 S.2.1 dL_law_880 rfl (lv_at hl 3 rfl) ?_
  refine lv_iconst (v := 0) S.1 S.2.1 dL_law_881 (by decide) ?_
  refine l_c8 S I dL_law_882 ?_
  refine lv_iload S.1 S.2.1 dL_law_883 (lv_at hl 0 rfl) ?_
  refine lv_i2l (v := r'.toInt64) S.1 S.2.1 dL_law_885 rfl ?_
  refine W.lcmp S.1 S.2.1 dL_law_886 ?_
  refine lv_if_eq (tgt := 892) S.1 S.2.1 dL_law_887 (by decide) (fun c3 => ?_) (fun c3 => absurd (l_cmp0 ((l_f0 c2).trans (by rw [hv c2]))) c3)
  refine lv_goto (tgt := 1545) S.1 S.2.1 dL_law_892 (by decide) ?_
  exact kk _ _ _ _ I (lv_sub hl [2, 3, 4, 5, 6] rfl)
set_option maxHeartbeats 4000000 in
set_option maxRecDepth 100000 in
theorem tLaw_16 (l : Launch) (hlf : l.stackTraces = false) (sa : Nat → Nat) (D : va_G) (cI cC cZ cL : ClassId) (h o hm : Nat) (a b d z q am : Nat → Nat) (Fp : xF) (Gp : xG) (Fo : xF) (Go : xG) (Fz : xF) (Gz : xG) (Fq : xF) (Gq : xG) (f : Nat → Int64) (F : xF) (G : xG) {p : Program} {e : Env} {s : State} {m : MethodId} {args : Array Value} {below : List Frame} {meth : Method} {c : Code} {A : Nat → Prop} {Q : State → Prop} {H : Heap} {locs : List Loc} {cells slots : Nat} {ls : Array Slot} {b0 L : Nat} {xs : Nat → Int32} {i : Int32} (S : CallFix p m c cL_law 7 s args wsL_law RL) (Z : yZ sa A s s.heap) (hX : va_X b0 L xs s s.heap) (hbl : b0 < s.heap.size) (hbA : ¬ A b0) (I : xI D A s (wL cI cC cZ cL h a b d z q Fp Gp Fo Go Fz Gz Fq Gq o f hm am F G) (xTL cI cC cZ cL) H locs) (hl : lv_has ls 7 [(4, .int i), (3, .ref o), (2, .ref hm), (1, .ref h), (0, .ref b0)]) (hcs : cells + 1 ≤ 1108 ∧ slots + 6 ≤ 19580) (hi1 : vp_in (i + 1) L) (hi2 : vp_in (i + 2) L) {k r r' : Int32}  {F' : xF} (hx9 : ¬ k = 0 → ¬ k = 1 → k = 2) (hfx : fX5_ofPrinciple Fz Gz (xs (i + 1).toNatClampNeg) (xs (i + 2).toNatClampNeg) = some (k, r)) (hfm : fX6_ofPrinciple F G (xs (i + 1).toNatClampNeg) (xs (i + 2).toNatClampNeg) = some (r', F')) (ht : fX6_thrown F' = some k) (hv : k = 0 → r = r') (kk : ∀ (H1 : Heap) (locs1 : List Loc) (ls1 : Array Slot) (f1 : Nat → Int64), xI D A s (wL cI cC cZ cL h a b d z q Fp Gp Fo Go Fz Gz Fq Gq o f1 hm am F' G) (xTL cI cC cZ cL) H1 locs1 → lv_has ls1 7 [(4, .int i), (3, .ref o), (2, .ref hm), (1, .ref h), (0, .ref b0)] → W p l e room_1 s m args below meth c H1 locs1 (cells + 1) (slots + 6) Q (F0 m 1545 ls1 [])) : W p l e room_1 s m args below meth c H locs cells slots Q (F0 m 895 ls []) := by
  refine lv_aload_n S.1 S.2.1 dL_law_895 rfl (lv_at hl 3 rfl) ?_
  refine lv_aload_n S.1 S.2.1 dL_law_896 rfl (lv_at hl 4 rfl) ?_
  refine lv_iload S.1 S.2.1 dL_law_897 (lv_at hl 0 rfl) ?_
  refine lv_iconst (v := 1) S.1 S.2.1 dL_law_899 (by decide) ?_
  refine lv_iadd S.1 S.2.1 dL_law_900 ?_
  refine l_sld S I hX hbl hbA hi1 dL_law_901 ?_
  refine lv_aload_n S.1 S.2.1 dL_law_902 rfl (lv_at hl 4 rfl) ?_
  refine lv_iload S.1 S.2.1 dL_law_903 (lv_at hl 0 rfl) ?_
  refine lv_iconst (v := 2) S.1 S.2.1 dL_law_905 (by decide) ?_
  refine lv_iadd S.1 S.2.1 dL_law_906 ?_
  refine l_sld S I hX hbl hbA hi2 dL_law_907 ?_
  refine lv_aload_n S.1 S.2.1 dL_law_908 rfl (lv_at hl 1 rfl) ?_
  refine l_c7 (As := [.ref h, .int (xs (i + 1).toNatClampNeg), .int (xs (i + 2).toNatClampNeg), .ref o]) (rest := []) (Fp' := Fp) (Gp' := Gp) (Fo' := Fo) (Go' := Go) (Fz' := Fz) (Gz' := Gz) (Fq' := Fq) (Gq' := Gq) (f' := (if k = 0 then vp_updL f 0 r.toInt64 else f)) S I Z (tL_ofPrinciple l hlf sa D cI cC cZ cL h o a b d z q Fp Gp Fo Go Fz Gz Fq Gq f (xs (i + 1).toNatClampNeg) (xs (i + 2).toNatClampNeg) (k, r) hx9 hfx) rfl (vx_cwSW 4 S.2.2.2.2 gL_law_L_ofPrinciple rfl rfl rfl (by decide +kernel) ⟨Nat.le_of_ble_eq_true rfl, Nat.le_of_ble_eq_true rfl⟩) hl rfl (Nat.le_of_ble_eq_true rfl) hcs dL_law_909 (fun H locs I => ?_)
  refine W.eq (g2 := F0 m 912 ls [.int k]) rfl ?_
  refine lv_istore (lv' := [(5, .int k), (4, .int i), (3, .ref o), (2, .ref hm), (1, .ref h), (0, .ref b0)]) S.1 S.2.1 dL_law_912 hl (by decide) rfl (fun ls hl => ?_)
  refine lv_aload_n S.1 S.2.1 dL_law_914 rfl (lv_at hl 3 rfl) ?_
  refine lv_aload_n S.1 S.2.1 dL_law_915 rfl (lv_at hl 5 rfl) ?_
  refine lv_iload S.1 S.2.1 dL_law_916 (lv_at hl 1 rfl) ?_
  refine lv_iconst (v := 1) S.1 S.2.1 dL_law_918 (by decide) ?_
  refine lv_iadd S.1 S.2.1 dL_law_919 ?_
  refine l_sld S I hX hbl hbA hi1 dL_law_920 ?_
  refine lv_aload_n S.1 S.2.1 dL_law_921 rfl (lv_at hl 5 rfl) ?_
  refine lv_iload S.1 S.2.1 dL_law_922 (lv_at hl 1 rfl) ?_
  refine lv_iconst (v := 2) S.1 S.2.1 dL_law_924 (by decide) ?_
  refine lv_iadd S.1 S.2.1 dL_law_925 ?_
  refine l_sld S I hX hbl hbA hi2 dL_law_926 ?_
  refine l_c6 (As := [.int (xs (i + 1).toNatClampNeg), .int (xs (i + 2).toNatClampNeg)]) (rest := []) (st' := [.int r']) (F' := F') (G' := G) S I (tX6_ofPrinciple l D cI cC cZ hm am F G (xs (i + 1).toNatClampNeg) (xs (i + 2).toNatClampNeg) (r', F') hfm) rfl (cwV 2 S.2.2.2.2 gL_law_X6_ofPrinciple rfl rfl rfl (by decide +kernel) ⟨Nat.le_of_ble_eq_true rfl, Nat.le_of_ble_eq_true rfl⟩) hl rfl (Nat.le_of_ble_eq_true rfl) hcs rfl dL_law_927 (fun H locs I => ?_)
  refine lv_istore (lv' := [(6, .int r'), (5, .int k), (4, .int i), (3, .ref o), (2, .ref hm), (1, .ref h), (0, .ref b0)]) S.1 S.2.1 dL_law_930 hl (by decide) rfl (fun ls hl => ?_)
  refine lv_aload_n S.1 S.2.1 dL_law_932 rfl (lv_at hl 4 rfl) ?_
  refine l_c6 (As := []) (rest := []) (st' := [.int k]) (F' := F') (G' := G) S I (tX6_thrown l D cI cC cZ hm am F' G k ht) rfl (cwV 0 S.2.2.2.2 gL_law_X6_thrown rfl rfl rfl (by decide +kernel) ⟨Nat.le_of_ble_eq_true rfl, Nat.le_of_ble_eq_true rfl⟩) hl rfl (Nat.le_of_ble_eq_true rfl) hcs rfl dL_law_933 (fun H locs I => ?_)
  refine lv_iload S.1 S.2.1 dL_law_936 (lv_at hl 1 rfl) ?_
  refine lv_icmp_eq (tgt := 943) S.1 S.2.1 dL_law_938 (by decide) (fun c1 => ?_) (fun c1 => absurd rfl c1)
  refine lv_iload S.1 S.2.1 dL_law_943 (lv_at hl 1 rfl) ?_
  refine lv_if_ne (tgt := 960) S.1 S.2.1 dL_law_945 (by decide) (fun c2 => ?_) (fun c2 => ?_)
  · refine lv_goto (tgt := 1545) S.1 S.2.1 dL_law_960 (by decide) ?_
    exact kk _ _ _ _ I (lv_sub hl [2, 3, 4, 5, 6] rfl)
  refine lv_aload_n S.1 S.2.1 dL_law_948 rfl (lv_at hl 3 rfl) ?_
  refine lv_iconst (v := 0) S.1 S.2.1 dL_law_949 (by decide) ?_
  refine l_c8 S I dL_law_950 ?_
  refine lv_iload S.1 S.2.1 dL_law_951 (lv_at hl 0 rfl) ?_
  refine lv_i2l (v := r'.toInt64) S.1 S.2.1 dL_law_953 rfl ?_
  refine W.lcmp S.1 S.2.1 dL_law_954 ?_
  refine lv_if_eq (tgt := 960) S.1 S.2.1 dL_law_955 (by decide) (fun c3 => ?_) (fun c3 => absurd (l_cmp0 ((l_f0 c2).trans (by rw [hv c2]))) c3)
  refine lv_goto (tgt := 1545) S.1 S.2.1 dL_law_960 (by decide) ?_
  exact kk _ _ _ _ I (lv_sub hl [2, 3, 4, 5, 6] rfl)
set_option maxHeartbeats 4000000 in
set_option maxRecDepth 100000 in
theorem tLaw_17 (l : Launch) (hlf : l.stackTraces = false) (sa : Nat → Nat) (D : va_G) (cI cC cZ cL : ClassId) (h o hm : Nat) (a b d z q am : Nat → Nat) (Fp : xF) (Gp : xG) (Fo : xF) (Go : xG) (Fz : xF) (Gz : xG) (Fq : xF) (Gq : xG) (f : Nat → Int64) (F : xF) (G : xG) {p : Program} {e : Env} {s : State} {m : MethodId} {args : Array Value} {below : List Frame} {meth : Method} {c : Code} {A : Nat → Prop} {Q : State → Prop} {H : Heap} {locs : List Loc} {cells slots : Nat} {ls : Array Slot} {b0 L : Nat} {xs : Nat → Int32} {i : Int32} (S : CallFix p m c cL_law 7 s args wsL_law RL) (Z : yZ sa A s s.heap) (hX : va_X b0 L xs s s.heap) (hbl : b0 < s.heap.size) (hbA : ¬ A b0) (I : xI D A s (wL cI cC cZ cL h a b d z q Fp Gp Fo Go Fz Gz Fq Gq o f hm am F G) (xTL cI cC cZ cL) H locs) (hl : lv_has ls 7 [(4, .int i), (3, .ref o), (2, .ref hm), (1, .ref h), (0, .ref b0)]) (hcs : cells + 1 ≤ 1108 ∧ slots + 6 ≤ 19580) (hi1 : vp_in (i + 1) L) (hi2 : vp_in (i + 2) L) (hi3 : vp_in (i + 3) L) {k r r' : Int32} {Fq' : xF} {Gq' : xG} {F' : xF} {G' : xG} (hx9 : ¬ k = 0 → ¬ k = 1 → k = 2) (hfx : fX5_problem Fq Gq (xs (i + 1).toNatClampNeg) (xs (i + 2).toNatClampNeg) (xs (i + 3).toNatClampNeg) = some (k, r, Fq', Gq')) (hfm : fX6_problem F G (xs (i + 1).toNatClampNeg) (xs (i + 2).toNatClampNeg) (xs (i + 3).toNatClampNeg) = some (r', F', G')) (ht : fX6_thrown F' = some k) (hv : k = 0 → r = r') (kk : ∀ (H1 : Heap) (locs1 : List Loc) (ls1 : Array Slot) (f1 : Nat → Int64), xI D A s (wL cI cC cZ cL h a b d z q Fp Gp Fo Go Fz Gz Fq' Gq' o f1 hm am F' G') (xTL cI cC cZ cL) H1 locs1 → lv_has ls1 7 [(4, .int i), (3, .ref o), (2, .ref hm), (1, .ref h), (0, .ref b0)] → W p l e room_1 s m args below meth c H1 locs1 (cells + 1) (slots + 6) Q (F0 m 1545 ls1 [])) : W p l e room_1 s m args below meth c H locs cells slots Q (F0 m 963 ls []) := by
  refine lv_aload_n S.1 S.2.1 dL_law_963 rfl (lv_at hl 3 rfl) ?_
  refine lv_aload_n S.1 S.2.1 dL_law_964 rfl (lv_at hl 4 rfl) ?_
  refine lv_iload S.1 S.2.1 dL_law_965 (lv_at hl 0 rfl) ?_
  refine lv_iconst (v := 1) S.1 S.2.1 dL_law_967 (by decide) ?_
  refine lv_iadd S.1 S.2.1 dL_law_968 ?_
  refine l_sld S I hX hbl hbA hi1 dL_law_969 ?_
  refine lv_aload_n S.1 S.2.1 dL_law_970 rfl (lv_at hl 4 rfl) ?_
  refine lv_iload S.1 S.2.1 dL_law_971 (lv_at hl 0 rfl) ?_
  refine lv_iconst (v := 2) S.1 S.2.1 dL_law_973 (by decide) ?_
  refine lv_iadd S.1 S.2.1 dL_law_974 ?_
  refine l_sld S I hX hbl hbA hi2 dL_law_975 ?_
  refine lv_aload_n S.1 S.2.1 dL_law_976 rfl (lv_at hl 4 rfl) ?_
  refine lv_iload S.1 S.2.1 dL_law_977 (lv_at hl 0 rfl) ?_
  refine lv_iconst (v := 3) S.1 S.2.1 dL_law_979 (by decide) ?_
  refine lv_iadd S.1 S.2.1 dL_law_980 ?_
  refine l_sld S I hX hbl hbA hi3 dL_law_981 ?_
  refine lv_aload_n S.1 S.2.1 dL_law_982 rfl (lv_at hl 1 rfl) ?_
  refine l_c7 (As := [.ref h, .int (xs (i + 1).toNatClampNeg), .int (xs (i + 2).toNatClampNeg), .int (xs (i + 3).toNatClampNeg), .ref o]) (rest := []) (Fp' := Fp) (Gp' := Gp) (Fo' := Fo) (Go' := Go) (Fz' := Fz) (Gz' := Gz) (Fq' := Fq') (Gq' := Gq') (f' := (if k = 0 then vp_updL f 0 r.toInt64 else f)) S I Z (tL_problem l hlf sa D cI cC cZ cL h o a b d z q Fp Gp Fo Go Fz Gz Fq Gq f (xs (i + 1).toNatClampNeg) (xs (i + 2).toNatClampNeg) (xs (i + 3).toNatClampNeg) (k, r, Fq', Gq') hx9 hfx) rfl (vx_cwSW 5 S.2.2.2.2 gL_law_L_problem rfl rfl rfl (by decide +kernel) ⟨Nat.le_of_ble_eq_true rfl, Nat.le_of_ble_eq_true rfl⟩) hl rfl (Nat.le_of_ble_eq_true rfl) hcs dL_law_983 (fun H locs I => ?_)
  refine W.eq (g2 := F0 m 986 ls [.int k]) rfl ?_
  refine lv_istore (lv' := [(5, .int k), (4, .int i), (3, .ref o), (2, .ref hm), (1, .ref h), (0, .ref b0)]) S.1 S.2.1 dL_law_986 hl (by decide) rfl (fun ls hl => ?_)
  refine lv_aload_n S.1 S.2.1 dL_law_988 rfl (lv_at hl 3 rfl) ?_
  refine lv_aload_n S.1 S.2.1 dL_law_989 rfl (lv_at hl 5 rfl) ?_
  refine lv_iload S.1 S.2.1 dL_law_990 (lv_at hl 1 rfl) ?_
  refine lv_iconst (v := 1) S.1 S.2.1 dL_law_992 (by decide) ?_
  refine lv_iadd S.1 S.2.1 dL_law_993 ?_
  refine l_sld S I hX hbl hbA hi1 dL_law_994 ?_
  refine lv_aload_n S.1 S.2.1 dL_law_995 rfl (lv_at hl 5 rfl) ?_
  refine lv_iload S.1 S.2.1 dL_law_996 (lv_at hl 1 rfl) ?_
  refine lv_iconst (v := 2) S.1 S.2.1 dL_law_998 (by decide) ?_
  refine lv_iadd S.1 S.2.1 dL_law_999 ?_
  refine l_sld S I hX hbl hbA hi2 dL_law_1000 ?_
  refine lv_aload_n S.1 S.2.1 dL_law_1001 rfl (lv_at hl 5 rfl) ?_
  refine lv_iload S.1 S.2.1 dL_law_1002 (lv_at hl 1 rfl) ?_
  refine lv_iconst (v := 3) S.1 S.2.1 dL_law_1004 (by decide) ?_
  refine lv_iadd S.1 S.2.1 dL_law_1005 ?_
  refine l_sld S I hX hbl hbA hi3 dL_law_1006 ?_
  refine l_c6 (As := [.int (xs (i + 1).toNatClampNeg), .int (xs (i + 2).toNatClampNeg), .int (xs (i + 3).toNatClampNeg)]) (rest := []) (st' := [.int r']) (F' := F') (G' := G') S I (tX6_problem l D cI cC cZ hm am F G (xs (i + 1).toNatClampNeg) (xs (i + 2).toNatClampNeg) (xs (i + 3).toNatClampNeg) (r', F', G') hfm) rfl (cwV 3 S.2.2.2.2 gL_law_X6_problem rfl rfl rfl (by decide +kernel) ⟨Nat.le_of_ble_eq_true rfl, Nat.le_of_ble_eq_true rfl⟩) hl rfl (Nat.le_of_ble_eq_true rfl) hcs rfl dL_law_1007 (fun H locs I => ?_)
  refine lv_istore (lv' := [(6, .int r'), (5, .int k), (4, .int i), (3, .ref o), (2, .ref hm), (1, .ref h), (0, .ref b0)]) S.1 S.2.1 dL_law_1010 hl (by decide) rfl (fun ls hl => ?_)
  refine lv_aload_n S.1 S.2.1 dL_law_1012 rfl (lv_at hl 4 rfl) ?_
  refine l_c6 (As := []) (rest := []) (st' := [.int k]) (F' := F') (G' := G') S I (tX6_thrown l D cI cC cZ hm am F' G' k ht) rfl (cwV 0 S.2.2.2.2 gL_law_X6_thrown rfl rfl rfl (by decide +kernel) ⟨Nat.le_of_ble_eq_true rfl, Nat.le_of_ble_eq_true rfl⟩) hl rfl (Nat.le_of_ble_eq_true rfl) hcs rfl dL_law_1013 (fun H locs I => ?_)
  refine lv_iload S.1 S.2.1 dL_law_1016 (lv_at hl 1 rfl) ?_
  refine lv_icmp_eq (tgt := 1023) S.1 S.2.1 dL_law_1018 (by decide) (fun c1 => ?_) (fun c1 => absurd rfl c1)
  refine lv_iload S.1 S.2.1 dL_law_1023 (lv_at hl 1 rfl) ?_
  refine lv_if_ne (tgt := 1040) S.1 S.2.1 dL_law_1025 (by decide) (fun c2 => ?_) (fun c2 => ?_)
  · refine lv_goto (tgt := 1545) S.1 S.2.1 dL_law_1040 (by decide) ?_
    exact kk _ _ _ _ I (lv_sub hl [2, 3, 4, 5, 6] rfl)
  refine lv_aload_n S.1 S.2.1 dL_law_1028 rfl (lv_at hl 3 rfl) ?_
  refine lv_iconst (v := 0) S.1 S.2.1 dL_law_1029 (by decide) ?_
  refine l_c8 S I dL_law_1030 ?_
  refine lv_iload S.1 S.2.1 dL_law_1031 (lv_at hl 0 rfl) ?_
  refine lv_i2l (v := r'.toInt64) S.1 S.2.1 dL_law_1033 rfl ?_
  refine W.lcmp S.1 S.2.1 dL_law_1034 ?_
  refine lv_if_eq (tgt := 1040) S.1 S.2.1 dL_law_1035 (by decide) (fun c3 => ?_) (fun c3 => absurd (l_cmp0 ((l_f0 c2).trans (by rw [hv c2]))) c3)
  refine lv_goto (tgt := 1545) S.1 S.2.1 dL_law_1040 (by decide) ?_
  exact kk _ _ _ _ I (lv_sub hl [2, 3, 4, 5, 6] rfl)
set_option maxHeartbeats 4000000 in
set_option maxRecDepth 100000 in
theorem tLaw_18 (l : Launch) (hlf : l.stackTraces = false) (sa : Nat → Nat) (D : va_G) (cI cC cZ cL : ClassId) (h o hm : Nat) (a b d z q am : Nat → Nat) (Fp : xF) (Gp : xG) (Fo : xF) (Go : xG) (Fz : xF) (Gz : xG) (Fq : xF) (Gq : xG) (f : Nat → Int64) (F : xF) (G : xG) {p : Program} {e : Env} {s : State} {m : MethodId} {args : Array Value} {below : List Frame} {meth : Method} {c : Code} {A : Nat → Prop} {Q : State → Prop} {H : Heap} {locs : List Loc} {cells slots : Nat} {ls : Array Slot} {b0 L : Nat} {xs : Nat → Int32} {i : Int32} (S : CallFix p m c cL_law 7 s args wsL_law RL) (Z : yZ sa A s s.heap) (hX : va_X b0 L xs s s.heap) (hbl : b0 < s.heap.size) (hbA : ¬ A b0) (I : xI D A s (wL cI cC cZ cL h a b d z q Fp Gp Fo Go Fz Gz Fq Gq o f hm am F G) (xTL cI cC cZ cL) H locs) (hl : lv_has ls 7 [(4, .int i), (3, .ref o), (2, .ref hm), (1, .ref h), (0, .ref b0)]) (hcs : cells + 1 ≤ 1108 ∧ slots + 6 ≤ 19580) (hi1 : vp_in (i + 1) L) (hi2 : vp_in (i + 2) L) {k r r' : Int32} {Fq' : xF} {Gq' : xG} {F' : xF} {G' : xG} (hx9 : ¬ k = 0 → ¬ k = 1 → k = 2) (hfx : fX5_product Fq Gq (xs (i + 1).toNatClampNeg) (xs (i + 2).toNatClampNeg) = some (k, r, Fq', Gq')) (hfm : fX6_product F G (xs (i + 1).toNatClampNeg) (xs (i + 2).toNatClampNeg) = some (r', F', G')) (ht : fX6_thrown F' = some k) (hv : k = 0 → r = r') (kk : ∀ (H1 : Heap) (locs1 : List Loc) (ls1 : Array Slot) (f1 : Nat → Int64), xI D A s (wL cI cC cZ cL h a b d z q Fp Gp Fo Go Fz Gz Fq' Gq' o f1 hm am F' G') (xTL cI cC cZ cL) H1 locs1 → lv_has ls1 7 [(4, .int i), (3, .ref o), (2, .ref hm), (1, .ref h), (0, .ref b0)] → W p l e room_1 s m args below meth c H1 locs1 (cells + 1) (slots + 6) Q (F0 m 1545 ls1 [])) : W p l e room_1 s m args below meth c H locs cells slots Q (F0 m 1043 ls []) := by
  refine lv_aload_n S.1 S.2.1 dL_law_1043 rfl (lv_at hl 3 rfl) ?_
  refine lv_aload_n S.1 S.2.1 dL_law_1044 rfl (lv_at hl 4 rfl) ?_
  refine lv_iload S.1 S.2.1 dL_law_1045 (lv_at hl 0 rfl) ?_
  refine lv_iconst (v := 1) S.1 S.2.1 dL_law_1047 (by decide) ?_
  refine lv_iadd S.1 S.2.1 dL_law_1048 ?_
  refine l_sld S I hX hbl hbA hi1 dL_law_1049 ?_
  refine lv_aload_n S.1 S.2.1 dL_law_1050 rfl (lv_at hl 4 rfl) ?_
  refine lv_iload S.1 S.2.1 dL_law_1051 (lv_at hl 0 rfl) ?_
  refine lv_iconst (v := 2) S.1 S.2.1 dL_law_1053 (by decide) ?_
  refine lv_iadd S.1 S.2.1 dL_law_1054 ?_
  refine l_sld S I hX hbl hbA hi2 dL_law_1055 ?_
  refine lv_aload_n S.1 S.2.1 dL_law_1056 rfl (lv_at hl 1 rfl) ?_
  refine l_c7 (As := [.ref h, .int (xs (i + 1).toNatClampNeg), .int (xs (i + 2).toNatClampNeg), .ref o]) (rest := []) (Fp' := Fp) (Gp' := Gp) (Fo' := Fo) (Go' := Go) (Fz' := Fz) (Gz' := Gz) (Fq' := Fq') (Gq' := Gq') (f' := (if k = 0 then vp_updL f 0 r.toInt64 else f)) S I Z (tL_product l hlf sa D cI cC cZ cL h o a b d z q Fp Gp Fo Go Fz Gz Fq Gq f (xs (i + 1).toNatClampNeg) (xs (i + 2).toNatClampNeg) (k, r, Fq', Gq') hx9 hfx) rfl (vx_cwSW 4 S.2.2.2.2 gL_law_L_product rfl rfl rfl (by decide +kernel) ⟨Nat.le_of_ble_eq_true rfl, Nat.le_of_ble_eq_true rfl⟩) hl rfl (Nat.le_of_ble_eq_true rfl) hcs dL_law_1057 (fun H locs I => ?_)
  refine W.eq (g2 := F0 m 1060 ls [.int k]) rfl ?_
  refine lv_istore (lv' := [(5, .int k), (4, .int i), (3, .ref o), (2, .ref hm), (1, .ref h), (0, .ref b0)]) S.1 S.2.1 dL_law_1060 hl (by decide) rfl (fun ls hl => ?_)
  refine lv_aload_n S.1 S.2.1 dL_law_1062 rfl (lv_at hl 3 rfl) ?_
  refine lv_aload_n S.1 S.2.1 dL_law_1063 rfl (lv_at hl 5 rfl) ?_
  refine lv_iload S.1 S.2.1 dL_law_1064 (lv_at hl 1 rfl) ?_
  refine lv_iconst (v := 1) S.1 S.2.1 dL_law_1066 (by decide) ?_
  refine lv_iadd S.1 S.2.1 dL_law_1067 ?_
  refine l_sld S I hX hbl hbA hi1 dL_law_1068 ?_
  refine lv_aload_n S.1 S.2.1 dL_law_1069 rfl (lv_at hl 5 rfl) ?_
  refine lv_iload S.1 S.2.1 dL_law_1070 (lv_at hl 1 rfl) ?_
  refine lv_iconst (v := 2) S.1 S.2.1 dL_law_1072 (by decide) ?_
  refine lv_iadd S.1 S.2.1 dL_law_1073 ?_
  refine l_sld S I hX hbl hbA hi2 dL_law_1074 ?_
  refine l_c6 (As := [.int (xs (i + 1).toNatClampNeg), .int (xs (i + 2).toNatClampNeg)]) (rest := []) (st' := [.int r']) (F' := F') (G' := G') S I (tX6_product l D cI cC cZ hm am F G (xs (i + 1).toNatClampNeg) (xs (i + 2).toNatClampNeg) (r', F', G') hfm) rfl (cwV 2 S.2.2.2.2 gL_law_X6_product rfl rfl rfl (by decide +kernel) ⟨Nat.le_of_ble_eq_true rfl, Nat.le_of_ble_eq_true rfl⟩) hl rfl (Nat.le_of_ble_eq_true rfl) hcs rfl dL_law_1075 (fun H locs I => ?_)
  refine lv_istore (lv' := [(6, .int r'), (5, .int k), (4, .int i), (3, .ref o), (2, .ref hm), (1, .ref h), (0, .ref b0)]) S.1 S.2.1 dL_law_1078 hl (by decide) rfl (fun ls hl => ?_)
  refine lv_aload_n S.1 S.2.1 dL_law_1080 rfl (lv_at hl 4 rfl) ?_
  refine l_c6 (As := []) (rest := []) (st' := [.int k]) (F' := F') (G' := G') S I (tX6_thrown l D cI cC cZ hm am F' G' k ht) rfl (cwV 0 S.2.2.2.2 gL_law_X6_thrown rfl rfl rfl (by decide +kernel) ⟨Nat.le_of_ble_eq_true rfl, Nat.le_of_ble_eq_true rfl⟩) hl rfl (Nat.le_of_ble_eq_true rfl) hcs rfl dL_law_1081 (fun H locs I => ?_)
  refine lv_iload S.1 S.2.1 dL_law_1084 (lv_at hl 1 rfl) ?_
  refine lv_icmp_eq (tgt := 1091) S.1 S.2.1 dL_law_1086 (by decide) (fun c1 => ?_) (fun c1 => absurd rfl c1)
  refine lv_iload S.1 S.2.1 dL_law_1091 (lv_at hl 1 rfl) ?_
  refine lv_if_ne (tgt := 1108) S.1 S.2.1 dL_law_1093 (by decide) (fun c2 => ?_) (fun c2 => ?_)
  · refine lv_goto (tgt := 1545) S.1 S.2.1 dL_law_1108 (by decide) ?_
    exact kk _ _ _ _ I (lv_sub hl [2, 3, 4, 5, 6] rfl)
  refine lv_aload_n S.1 S.2.1 dL_law_1096 rfl (lv_at hl 3 rfl) ?_
  refine lv_iconst (v := 0) S.1 S.2.1 dL_law_1097 (by decide) ?_
  refine l_c8 S I dL_law_1098 ?_
  refine lv_iload S.1 S.2.1 dL_law_1099 (lv_at hl 0 rfl) ?_
  refine lv_i2l (v := r'.toInt64) S.1 S.2.1 dL_law_1101 rfl ?_
  refine W.lcmp S.1 S.2.1 dL_law_1102 ?_
  refine lv_if_eq (tgt := 1108) S.1 S.2.1 dL_law_1103 (by decide) (fun c3 => ?_) (fun c3 => absurd (l_cmp0 ((l_f0 c2).trans (by rw [hv c2]))) c3)
  refine lv_goto (tgt := 1545) S.1 S.2.1 dL_law_1108 (by decide) ?_
  exact kk _ _ _ _ I (lv_sub hl [2, 3, 4, 5, 6] rfl)
set_option maxHeartbeats 4000000 in
set_option maxRecDepth 100000 in
theorem tLaw_19 (l : Launch) (hlf : l.stackTraces = false) (sa : Nat → Nat) (D : va_G) (cI cC cZ cL : ClassId) (h o hm : Nat) (a b d z q am : Nat → Nat) (Fp : xF) (Gp : xG) (Fo : xF) (Go : xG) (Fz : xF) (Gz : xG) (Fq : xF) (Gq : xG) (f : Nat → Int64) (F : xF) (G : xG) {p : Program} {e : Env} {s : State} {m : MethodId} {args : Array Value} {below : List Frame} {meth : Method} {c : Code} {A : Nat → Prop} {Q : State → Prop} {H : Heap} {locs : List Loc} {cells slots : Nat} {ls : Array Slot} {b0 L : Nat} {xs : Nat → Int32} {i : Int32} (S : CallFix p m c cL_law 7 s args wsL_law RL) (Z : yZ sa A s s.heap) (hX : va_X b0 L xs s s.heap) (hbl : b0 < s.heap.size) (hbA : ¬ A b0) (I : xI D A s (wL cI cC cZ cL h a b d z q Fp Gp Fo Go Fz Gz Fq Gq o f hm am F G) (xTL cI cC cZ cL) H locs) (hl : lv_has ls 7 [(4, .int i), (3, .ref o), (2, .ref hm), (1, .ref h), (0, .ref b0)]) (hcs : cells + 1 ≤ 1108 ∧ slots + 6 ≤ 19580) (hi1 : vp_in (i + 1) L) (hi2 : vp_in (i + 2) L) {k r r' : Int32} {Gq' : xG} {F' : xF} (hx9 : ¬ k = 0 → k = 1) (hfx : fX5_reduces Fq Gq (xs (i + 1).toNatClampNeg) (xs (i + 2).toNatClampNeg) = some (k, r, Gq')) (hfm : fX6_reduces F G (xs (i + 1).toNatClampNeg) (xs (i + 2).toNatClampNeg) = some (r', F')) (ht : fX6_thrown F' = some k) (hv : k = 0 → r = r') (kk : ∀ (H1 : Heap) (locs1 : List Loc) (ls1 : Array Slot) (f1 : Nat → Int64), xI D A s (wL cI cC cZ cL h a b d z q Fp Gp Fo Go Fz Gz Fq Gq' o f1 hm am F' G) (xTL cI cC cZ cL) H1 locs1 → lv_has ls1 7 [(4, .int i), (3, .ref o), (2, .ref hm), (1, .ref h), (0, .ref b0)] → W p l e room_1 s m args below meth c H1 locs1 (cells + 1) (slots + 6) Q (F0 m 1545 ls1 [])) : W p l e room_1 s m args below meth c H locs cells slots Q (F0 m 1111 ls []) := by
  refine lv_aload_n S.1 S.2.1 dL_law_1111 rfl (lv_at hl 3 rfl) ?_
  refine lv_aload_n S.1 S.2.1 dL_law_1112 rfl (lv_at hl 4 rfl) ?_
  refine lv_iload S.1 S.2.1 dL_law_1113 (lv_at hl 0 rfl) ?_
  refine lv_iconst (v := 1) S.1 S.2.1 dL_law_1115 (by decide) ?_
  refine lv_iadd S.1 S.2.1 dL_law_1116 ?_
  refine l_sld S I hX hbl hbA hi1 dL_law_1117 ?_
  refine lv_aload_n S.1 S.2.1 dL_law_1118 rfl (lv_at hl 4 rfl) ?_
  refine lv_iload S.1 S.2.1 dL_law_1119 (lv_at hl 0 rfl) ?_
  refine lv_iconst (v := 2) S.1 S.2.1 dL_law_1121 (by decide) ?_
  refine lv_iadd S.1 S.2.1 dL_law_1122 ?_
  refine l_sld S I hX hbl hbA hi2 dL_law_1123 ?_
  refine lv_aload_n S.1 S.2.1 dL_law_1124 rfl (lv_at hl 1 rfl) ?_
  refine l_c7 (As := [.ref h, .int (xs (i + 1).toNatClampNeg), .int (xs (i + 2).toNatClampNeg), .ref o]) (rest := []) (Fp' := Fp) (Gp' := Gp) (Fo' := Fo) (Go' := Go) (Fz' := Fz) (Gz' := Gz) (Fq' := Fq) (Gq' := Gq') (f' := (if k = 0 then vp_updL f 0 r.toInt64 else f)) S I Z (tL_reduces l hlf sa D cI cC cZ cL h o a b d z q Fp Gp Fo Go Fz Gz Fq Gq f (xs (i + 1).toNatClampNeg) (xs (i + 2).toNatClampNeg) (k, r, Gq') hx9 hfx) rfl (vx_cwSW 4 S.2.2.2.2 gL_law_L_reduces rfl rfl rfl (by decide +kernel) ⟨Nat.le_of_ble_eq_true rfl, Nat.le_of_ble_eq_true rfl⟩) hl rfl (Nat.le_of_ble_eq_true rfl) hcs dL_law_1125 (fun H locs I => ?_)
  refine W.eq (g2 := F0 m 1128 ls [.int k]) rfl ?_
  refine lv_istore (lv' := [(5, .int k), (4, .int i), (3, .ref o), (2, .ref hm), (1, .ref h), (0, .ref b0)]) S.1 S.2.1 dL_law_1128 hl (by decide) rfl (fun ls hl => ?_)
  refine lv_aload_n S.1 S.2.1 dL_law_1130 rfl (lv_at hl 3 rfl) ?_
  refine lv_aload_n S.1 S.2.1 dL_law_1131 rfl (lv_at hl 5 rfl) ?_
  refine lv_iload S.1 S.2.1 dL_law_1132 (lv_at hl 1 rfl) ?_
  refine lv_iconst (v := 1) S.1 S.2.1 dL_law_1134 (by decide) ?_
  refine lv_iadd S.1 S.2.1 dL_law_1135 ?_
  refine l_sld S I hX hbl hbA hi1 dL_law_1136 ?_
  refine lv_aload_n S.1 S.2.1 dL_law_1137 rfl (lv_at hl 5 rfl) ?_
  refine lv_iload S.1 S.2.1 dL_law_1138 (lv_at hl 1 rfl) ?_
  refine lv_iconst (v := 2) S.1 S.2.1 dL_law_1140 (by decide) ?_
  refine lv_iadd S.1 S.2.1 dL_law_1141 ?_
  refine l_sld S I hX hbl hbA hi2 dL_law_1142 ?_
  refine l_c6 (As := [.int (xs (i + 1).toNatClampNeg), .int (xs (i + 2).toNatClampNeg)]) (rest := []) (st' := [.int r']) (F' := F') (G' := G) S I (tX6_reduces l D cI cC cZ hm am F G (xs (i + 1).toNatClampNeg) (xs (i + 2).toNatClampNeg) (r', F') hfm) rfl (cwV 2 S.2.2.2.2 gL_law_X6_reduces rfl rfl rfl (by decide +kernel) ⟨Nat.le_of_ble_eq_true rfl, Nat.le_of_ble_eq_true rfl⟩) hl rfl (Nat.le_of_ble_eq_true rfl) hcs rfl dL_law_1143 (fun H locs I => ?_)
  refine lv_istore (lv' := [(6, .int r'), (5, .int k), (4, .int i), (3, .ref o), (2, .ref hm), (1, .ref h), (0, .ref b0)]) S.1 S.2.1 dL_law_1146 hl (by decide) rfl (fun ls hl => ?_)
  refine lv_aload_n S.1 S.2.1 dL_law_1148 rfl (lv_at hl 4 rfl) ?_
  refine l_c6 (As := []) (rest := []) (st' := [.int k]) (F' := F') (G' := G) S I (tX6_thrown l D cI cC cZ hm am F' G k ht) rfl (cwV 0 S.2.2.2.2 gL_law_X6_thrown rfl rfl rfl (by decide +kernel) ⟨Nat.le_of_ble_eq_true rfl, Nat.le_of_ble_eq_true rfl⟩) hl rfl (Nat.le_of_ble_eq_true rfl) hcs rfl dL_law_1149 (fun H locs I => ?_)
  refine lv_iload S.1 S.2.1 dL_law_1152 (lv_at hl 1 rfl) ?_
  refine lv_icmp_eq (tgt := 1159) S.1 S.2.1 dL_law_1154 (by decide) (fun c1 => ?_) (fun c1 => absurd rfl c1)
  refine lv_iload S.1 S.2.1 dL_law_1159 (lv_at hl 1 rfl) ?_
  refine lv_if_ne (tgt := 1176) S.1 S.2.1 dL_law_1161 (by decide) (fun c2 => ?_) (fun c2 => ?_)
  · refine lv_goto (tgt := 1545) S.1 S.2.1 dL_law_1176 (by decide) ?_
    exact kk _ _ _ _ I (lv_sub hl [2, 3, 4, 5, 6] rfl)
  refine lv_aload_n S.1 S.2.1 dL_law_1164 rfl (lv_at hl 3 rfl) ?_
  refine lv_iconst (v := 0) S.1 S.2.1 dL_law_1165 (by decide) ?_
  refine l_c8 S I dL_law_1166 ?_
  refine lv_iload S.1 S.2.1 dL_law_1167 (lv_at hl 0 rfl) ?_
  refine lv_i2l (v := r'.toInt64) S.1 S.2.1 dL_law_1169 rfl ?_
  refine W.lcmp S.1 S.2.1 dL_law_1170 ?_
  refine lv_if_eq (tgt := 1176) S.1 S.2.1 dL_law_1171 (by decide) (fun c3 => ?_) (fun c3 => absurd (l_cmp0 ((l_f0 c2).trans (by rw [hv c2]))) c3)
  refine lv_goto (tgt := 1545) S.1 S.2.1 dL_law_1176 (by decide) ?_
  exact kk _ _ _ _ I (lv_sub hl [2, 3, 4, 5, 6] rfl)
