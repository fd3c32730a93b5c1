set_option maxRecDepth 100000
theorem lin_r1 : ∀ w ∈ wsL_law0_r1, w ∈ lw_tbl := fun w h => (goodIn_p wsL_law0_r1 [79, 82] rfl (by decide +kernel) w h).1
theorem lin_r2 : ∀ w ∈ wsL_law0_r2, w ∈ lw_tbl := fun w h => (goodIn_p wsL_law0_r2 [87, 93] rfl (by decide +kernel) w h).1
theorem lin_r3 : ∀ w ∈ wsL_law0_r3, w ∈ lw_tbl := fun w h => (goodIn_p wsL_law0_r3 [162, 196] rfl (by decide +kernel) w h).1
theorem lin_r4 : ∀ w ∈ wsL_law0_r4, w ∈ lw_tbl := fun w h => (goodIn_p wsL_law0_r4 [962] rfl (by decide +kernel) w h).1
theorem lin_r5 : ∀ w ∈ wsL_law0_r5, w ∈ lw_tbl := fun w h => (goodIn_p wsL_law0_r5 [315, 318] rfl (by decide +kernel) w h).1
theorem lin_r6 : ∀ w ∈ wsL_law0_r6, w ∈ lw_tbl := fun w h => (goodIn_p wsL_law0_r6 [323, 327, 331, 337, 341] rfl (by decide +kernel) w h).1
theorem lin_r7 : ∀ w ∈ wsL_law0_r7, w ∈ lw_tbl := fun w h => (goodIn_p wsL_law0_r7 [344, 350, 353, 347, 356, 359] rfl (by decide +kernel) w h).1
theorem lin_r8 : ∀ w ∈ wsL_law0_r8, w ∈ lw_tbl := fun w h => (goodIn_p wsL_law0_r8 [365, 368, 371, 374, 379, 382, 385] rfl (by decide +kernel) w h).1
theorem lin_r9 : ∀ w ∈ wsL_law0_r9, w ∈ lw_tbl := fun w h => (goodIn_p wsL_law0_r9 [394, 397, 400, 404, 477] rfl (by decide +kernel) w h).1
theorem lin_r10 : ∀ w ∈ wsL_law0_r10, w ∈ lw_tbl := fun w h => (goodIn_p wsL_law0_r10 [497, 501, 505, 508, 512, 515, 518] rfl (by decide +kernel) w h).1
theorem lin_r11 : ∀ w ∈ wsL_law0_r11, w ∈ lw_tbl := fun w h => (goodIn_p wsL_law0_r11 [522, 526, 530, 534, 538, 542] rfl (by decide +kernel) w h).1
theorem lin_r12 : ∀ w ∈ wsL_law0_r12, w ∈ lw_tbl := fun w h => (goodIn_p wsL_law0_r12 [546, 549, 552, 556, 561, 566] rfl (by decide +kernel) w h).1
theorem lin_r13 : ∀ w ∈ wsL_law0_r13, w ∈ lw_tbl := fun w h => (goodIn_p wsL_law0_r13 [571, 1068, 1071, 1074, 1077, 1081] rfl (by decide +kernel) w h).1
theorem lin_r14 : ∀ w ∈ wsL_law0_r14, w ∈ lw_tbl := fun w h => (goodIn_p wsL_law0_r14 [1064, 233, 237, 241, 1085, 245] rfl (by decide +kernel) w h).1
theorem lin_r15 : ∀ w ∈ wsL_law0_r15, w ∈ lw_tbl := fun w h => (goodIn_p wsL_law0_r15 [249, 1089, 1093, 1097, 1101] rfl (by decide +kernel) w h).1
theorem lin_r16 : ∀ w ∈ wsL_law0_r16, w ∈ lw_tbl := fun w h => (goodIn_p wsL_law0_r16 [1105, 1109, 1113, 1116, 1120, 1124, 253] rfl (by decide +kernel) w h).1
theorem lin_r17 : ∀ w ∈ wsL_law0_r17, w ∈ lw_tbl := fun w h => (goodIn_p wsL_law0_r17 [257, 261, 1128, 1132, 265, 269] rfl (by decide +kernel) w h).1
theorem lin_r18 : ∀ w ∈ wsL_law0_r18, w ∈ lw_tbl := fun w h => (goodIn_p wsL_law0_r18 [1136, 273, 277, 1140, 578] rfl (by decide +kernel) w h).1
theorem lin_r19 : ∀ w ∈ wsL_law0_r19, w ∈ lw_tbl := fun w h => (goodIn_p wsL_law0_r19 [581, 584, 590, 594, 597, 601, 604] rfl (by decide +kernel) w h).1
theorem lin_r20 : ∀ w ∈ wsL_law0_r20, w ∈ lw_tbl := fun w h => (goodIn_p wsL_law0_r20 [608, 1144, 1148, 1152, 1155, 1158] rfl (by decide +kernel) w h).1
theorem lin_r21 : ∀ w ∈ wsL_law0_r21, w ∈ lw_tbl := fun w h => (goodIn_p wsL_law0_r21 [1162, 1166, 615, 619, 624, 1170] rfl (by decide +kernel) w h).1
theorem lin_r22 : ∀ w ∈ wsL_law0_r22, w ∈ lw_tbl := fun w h => (goodIn_p wsL_law0_r22 [632, 636, 657, 306] rfl (by decide +kernel) w h).1
theorem lin_r23 : ∀ w ∈ wsL_law0_r23, w ∈ lw_tbl := fun w h => (goodIn_p wsL_law0_r23 [663, 667, 300, 303, 672, 1174] rfl (by decide +kernel) w h).1
theorem lin_r24 : ∀ w ∈ wsL_law0_r24, w ∈ lw_tbl := fun w h => (goodIn_p wsL_law0_r24 [1178, 1182, 1185, 679, 684] rfl (by decide +kernel) w h).1
theorem lin_r25 : ∀ w ∈ wsL_law0_r25, w ∈ lw_tbl := fun w h => (goodIn_p wsL_law0_r25 [688, 297, 693, 1189, 700, 293] rfl (by decide +kernel) w h).1
theorem lin_r26 : ∀ w ∈ wsL_law0_r26, w ∈ lw_tbl := fun w h => (goodIn_p wsL_law0_r26 [1193, 1197, 1201, 708, 713] rfl (by decide +kernel) w h).1
theorem lin_r27 : ∀ w ∈ wsL_law0_r27, w ∈ lw_tbl := fun w h => (goodIn_p wsL_law0_r27 [717, 721, 725, 1205, 1209] rfl (by decide +kernel) w h).1
theorem lin_r28 : ∀ w ∈ wsL_law0_r28, w ∈ lw_tbl := fun w h => (goodIn_p wsL_law0_r28 [732, 289, 1213, 1217, 281, 285] rfl (by decide +kernel) w h).1
theorem lin_r29 : ∀ w ∈ wsL_law0_r29, w ∈ lw_tbl := fun w h => (goodIn_p wsL_law0_r29 [1221, 741, 746, 749] rfl (by decide +kernel) w h).1
theorem lin_r30 : ∀ w ∈ wsL_law0_r30, w ∈ lw_tbl := fun w h => (goodIn_p wsL_law0_r30 [1225, 1229, 1232, 759, 763, 1236] rfl (by decide +kernel) w h).1
theorem lin_r31 : ∀ w ∈ wsL_law0_r31, w ∈ lw_tbl := fun w h => (goodIn_p wsL_law0_r31 [770, 775, 779, 783, 1240] rfl (by decide +kernel) w h).1
theorem lin_r32 : ∀ w ∈ wsL_law0_r32, w ∈ lw_tbl := fun w h => (goodIn_p wsL_law0_r32 [790, 793, 797, 802, 807, 1244] rfl (by decide +kernel) w h).1
theorem lin_r33 : ∀ w ∈ wsL_law0_r33, w ∈ lw_tbl := fun w h => (goodIn_p wsL_law0_r33 [1247, 1250, 1254, 814, 818] rfl (by decide +kernel) w h).1
theorem lin_r34 : ∀ w ∈ wsL_law0_r34, w ∈ lw_tbl := fun w h => (goodIn_p wsL_law0_r34 [822, 828, 833, 836, 1258, 1262] rfl (by decide +kernel) w h).1
theorem lin_r35 : ∀ w ∈ wsL_law0_r35, w ∈ lw_tbl := fun w h => (goodIn_p wsL_law0_r35 [844, 848, 851, 854, 858, 862] rfl (by decide +kernel) w h).1
theorem lin_r36 : ∀ w ∈ wsL_law0_r36, w ∈ lw_tbl := fun w h => (goodIn_p wsL_law0_r36 [866, 870, 873, 877, 881, 1266] rfl (by decide +kernel) w h).1
theorem lin_r37 : ∀ w ∈ wsL_law0_r37, w ∈ lw_tbl := fun w h => (goodIn_p wsL_law0_r37 [1270, 1274, 1277, 888, 1281] rfl (by decide +kernel) w h).1
theorem lin_r38 : ∀ w ∈ wsL_law0_r38, w ∈ lw_tbl := fun w h => (goodIn_p wsL_law0_r38 [895, 899, 904, 1285, 912] rfl (by decide +kernel) w h).1
theorem lin_r39 : ∀ w ∈ wsL_law0_r39, w ∈ lw_tbl := fun w h => (goodIn_p wsL_law0_r39 [917, 1289, 924, 927, 932] rfl (by decide +kernel) w h).1
theorem lin_r40 : ∀ w ∈ wsL_law0_r40, w ∈ lw_tbl := fun w h => (goodIn_p wsL_law0_r40 [935, 938, 1293, 1297, 1301, 945] rfl (by decide +kernel) w h).1
theorem lin_r41 : ∀ w ∈ wsL_law0_r41, w ∈ lw_tbl := fun w h => (goodIn_p wsL_law0_r41 [948, 951, 954, 957, 1305] rfl (by decide +kernel) w h).1
theorem lin_wsX50 : ∀ w ∈ wsX50, w ∈ lw_tbl := by decide +kernel
theorem lin_wsX60 : ∀ w ∈ wsX60, w ∈ lw_tbl := by decide +kernel
theorem lin_wsX20 : ∀ w ∈ wsX20, w ∈ lw_tbl := by decide +kernel
theorem lin_wsX40 : ∀ w ∈ wsX40, w ∈ lw_tbl := by decide +kernel
theorem lin_wsX30 : ∀ w ∈ wsX30, w ∈ lw_tbl := by decide +kernel
theorem lin_wsX00 : ∀ w ∈ wsX00, w ∈ lw_tbl := by decide +kernel
theorem wsL_law_in0 : ∀ w ∈ wsL_law0, w ∈ lw_tbl := by
  unfold wsL_law0
  exact List.forall_mem_append.mpr ⟨(List.forall_mem_append.mpr ⟨(List.forall_mem_append.mpr ⟨(List.forall_mem_append.mpr ⟨(List.forall_mem_append.mpr ⟨(List.forall_mem_append.mpr ⟨(List.forall_mem_append.mpr ⟨(List.forall_mem_append.mpr ⟨lin_r1, (List.forall_mem_append.mpr ⟨lin_r2, (List.forall_mem_append.mpr ⟨lin_r3, (List.forall_mem_append.mpr ⟨lin_r4, (List.forall_mem_append.mpr ⟨lin_r5, (List.forall_mem_append.mpr ⟨lin_r6, (List.forall_mem_append.mpr ⟨lin_r7, (List.forall_mem_append.mpr ⟨lin_r8, (List.forall_mem_append.mpr ⟨lin_r9, (List.forall_mem_append.mpr ⟨lin_r10, (List.forall_mem_append.mpr ⟨lin_r11, (List.forall_mem_append.mpr ⟨lin_r12, (List.forall_mem_append.mpr ⟨lin_r13, (List.forall_mem_append.mpr ⟨lin_r14, (List.forall_mem_append.mpr ⟨lin_r15, (List.forall_mem_append.mpr ⟨lin_r16, (List.forall_mem_append.mpr ⟨lin_r17, (List.forall_mem_append.mpr ⟨lin_r18, (List.forall_mem_append.mpr ⟨lin_r19, (List.forall_mem_append.mpr ⟨lin_r20, (List.forall_mem_append.mpr ⟨lin_r21, (List.forall_mem_append.mpr ⟨lin_r22, (List.forall_mem_append.mpr ⟨lin_r23, (List.forall_mem_append.mpr ⟨lin_r24, (List.forall_mem_append.mpr ⟨lin_r25, (List.forall_mem_append.mpr ⟨lin_r26, (List.forall_mem_append.mpr ⟨lin_r27, (List.forall_mem_append.mpr ⟨lin_r28, (List.forall_mem_append.mpr ⟨lin_r29, (List.forall_mem_append.mpr ⟨lin_r30, (List.forall_mem_append.mpr ⟨lin_r31, (List.forall_mem_append.mpr ⟨lin_r32, (List.forall_mem_append.mpr ⟨lin_r33, (List.forall_mem_append.mpr ⟨lin_r34, (List.forall_mem_append.mpr ⟨lin_r35, (List.forall_mem_append.mpr ⟨lin_r36, (List.forall_mem_append.mpr ⟨lin_r37, (List.forall_mem_append.mpr ⟨lin_r38, (List.forall_mem_append.mpr ⟨lin_r39, (List.forall_mem_append.mpr ⟨lin_r40, lin_r41⟩)⟩)⟩)⟩)⟩)⟩)⟩)⟩)⟩)⟩)⟩)⟩)⟩)⟩)⟩)⟩)⟩)⟩)⟩)⟩)⟩)⟩)⟩)⟩)⟩)⟩)⟩)⟩)⟩)⟩)⟩)⟩)⟩)⟩)⟩)⟩)⟩)⟩)⟩)⟩), lin_wsX50⟩), lin_wsX60⟩), lin_wsX20⟩), lin_wsX40⟩), lin_wsX30⟩), lin_wsX00⟩), fun _ h => absurd h List.not_mem_nil⟩
theorem wsL_law_in : ∀ w ∈ wsL_law, w ∈ lw_tbl := fun w h => (List.mem_append.mp h).elim (fun h => (List.mem_append.mp h).elim (fun h => (List.mem_append.mp h).elim (fun h => wsL_law_in0 w h) (fun h => wsL_law_x0 w h)) (fun h => wsL_law_x1 w h)) (fun h => wsL_law_x2 w h)
theorem inX0 : ∀ w ∈ wsX00, w ∈ lw_tbl := fun w h => wsL_law_in w (inlX0 w h)
theorem inX1 : ∀ w ∈ wsX10, w ∈ lw_tbl := by decide +kernel
theorem inX2 : ∀ w ∈ wsX20, w ∈ lw_tbl := fun w h => wsL_law_in w (inlX2 w h)
theorem inX3 : ∀ w ∈ wsX30, w ∈ lw_tbl := fun w h => wsL_law_in w (inlX3 w h)
theorem inX4 : ∀ w ∈ wsX40, w ∈ lw_tbl := fun w h => wsL_law_in w (inlX4 w h)
theorem inX5 : ∀ w ∈ wsX50, w ∈ lw_tbl := fun w h => wsL_law_in w (inlX5 w h)
theorem inX6 : ∀ w ∈ wsX60, w ∈ lw_tbl := fun w h => wsL_law_in w (inlX6 w h)
theorem inJ11 : ∀ w ∈ wsJ110, w ∈ lw_tbl := by decide +kernel
theorem inJ6 : ∀ w ∈ wsJ60, w ∈ lw_tbl := by decide +kernel
theorem inJ9 : ∀ w ∈ wsJ90, w ∈ lw_tbl := by decide +kernel
theorem inJ0 : ∀ w ∈ wsJ00, w ∈ lw_tbl := by decide +kernel
theorem inJ1 : ∀ w ∈ wsJ10, w ∈ lw_tbl := by decide +kernel
theorem inJ2 : ∀ w ∈ wsJ20, w ∈ lw_tbl := by decide +kernel
theorem inJ3 : ∀ w ∈ wsJ30, w ∈ lw_tbl := by decide +kernel
