set_option maxRecDepth 100000
theorem lin_r1 : ∀ w ∈ wsL_law0_r1, w ∈ lw_tbl := fun w h => (goodIn_p wsL_law0_r1 [51, 54, 59] rfl (by decide +kernel) w h).1
theorem lin_r2 : ∀ w ∈ wsL_law0_r2, w ∈ lw_tbl := fun w h => (goodIn_p wsL_law0_r2 [65] rfl (by decide +kernel) w h).1
theorem lin_r3 : ∀ w ∈ wsL_law0_r3, w ∈ lw_tbl := fun w h => (goodIn_p wsL_law0_r3 [134, 168] rfl (by decide +kernel) w h).1
theorem lin_r4 : ∀ w ∈ wsL_law0_r4, w ∈ lw_tbl := fun w h => (goodIn_p wsL_law0_r4 [236, 225, 229, 233, 217] rfl (by decide +kernel) w h).1
theorem lin_r5 : ∀ w ∈ wsL_law0_r5, w ∈ lw_tbl := fun w h => (goodIn_p wsL_law0_r5 [221, 205, 209, 213, 239, 242, 246] rfl (by decide +kernel) w h).1
theorem lin_r6 : ∀ w ∈ wsL_law0_r6, w ∈ lw_tbl := fun w h => (goodIn_p wsL_law0_r6 [249, 258, 261, 266] rfl (by decide +kernel) w h).1
theorem lin_r7 : ∀ w ∈ wsL_law0_r7, w ∈ lw_tbl := fun w h => (goodIn_p wsL_law0_r7 [270, 274, 280, 284, 287] rfl (by decide +kernel) w h).1
theorem lin_r8 : ∀ w ∈ wsL_law0_r8, w ∈ lw_tbl := fun w h => (goodIn_p wsL_law0_r8 [293, 296, 290, 299, 302, 308, 311] rfl (by decide +kernel) w h).1
theorem lin_r9 : ∀ w ∈ wsL_law0_r9, w ∈ lw_tbl := fun w h => (goodIn_p wsL_law0_r9 [314, 317, 322, 325, 328, 337] rfl (by decide +kernel) w h).1
theorem lin_r10 : ∀ w ∈ wsL_law0_r10, w ∈ lw_tbl := fun w h => (goodIn_p wsL_law0_r10 [340, 343, 347, 420, 440, 444] rfl (by decide +kernel) w h).1
theorem lin_r11 : ∀ w ∈ wsL_law0_r11, w ∈ lw_tbl := fun w h => (goodIn_p wsL_law0_r11 [448, 451, 455, 458, 461, 465, 469] rfl (by decide +kernel) w h).1
theorem lin_r12 : ∀ w ∈ wsL_law0_r12, w ∈ lw_tbl := fun w h => (goodIn_p wsL_law0_r12 [473, 477, 481, 485, 489, 492] rfl (by decide +kernel) w h).1
theorem lin_r13 : ∀ w ∈ wsL_law0_r13, w ∈ lw_tbl := fun w h => (goodIn_p wsL_law0_r13 [495, 499, 504, 509, 514, 518] rfl (by decide +kernel) w h).1
theorem lin_r14 : ∀ w ∈ wsL_law0_r14, w ∈ lw_tbl := fun w h => (goodIn_p wsL_law0_r14 [522, 526, 530, 534, 541] rfl (by decide +kernel) w h).1
theorem lin_r15 : ∀ w ∈ wsL_law0_r15, w ∈ lw_tbl := fun w h => (goodIn_p wsL_law0_r15 [544, 547, 553, 557, 560, 564, 567] rfl (by decide +kernel) w h).1
theorem lin_r16 : ∀ w ∈ wsL_law0_r16, w ∈ lw_tbl := fun w h => (goodIn_p wsL_law0_r16 [571, 578, 582, 587] rfl (by decide +kernel) w h).1
theorem lin_r17 : ∀ w ∈ wsL_law0_r17, w ∈ lw_tbl := fun w h => (goodIn_p wsL_law0_r17 [595, 599, 620, 623, 628, 632] rfl (by decide +kernel) w h).1
theorem lin_r18 : ∀ w ∈ wsL_law0_r18, w ∈ lw_tbl := fun w h => (goodIn_p wsL_law0_r18 [635, 638, 644, 651, 656] rfl (by decide +kernel) w h).1
theorem lin_r19 : ∀ w ∈ wsL_law0_r19, w ∈ lw_tbl := fun w h => (goodIn_p wsL_law0_r19 [660, 664, 669, 676, 680] rfl (by decide +kernel) w h).1
theorem lin_r20 : ∀ w ∈ wsL_law0_r20, w ∈ lw_tbl := fun w h => (goodIn_p wsL_law0_r20 [687, 692, 696, 700, 704, 708] rfl (by decide +kernel) w h).1
theorem lin_r21 : ∀ w ∈ wsL_law0_r21, w ∈ lw_tbl := fun w h => (goodIn_p wsL_law0_r21 [712, 716, 724, 733] rfl (by decide +kernel) w h).1
theorem lin_r22 : ∀ w ∈ wsL_law0_r22, w ∈ lw_tbl := fun w h => (goodIn_p wsL_law0_r22 [738, 741, 751, 756] rfl (by decide +kernel) w h).1
theorem lin_r23 : ∀ w ∈ wsL_law0_r23, w ∈ lw_tbl := fun w h => (goodIn_p wsL_law0_r23 [760, 764, 771, 774, 778, 783] rfl (by decide +kernel) w h).1
theorem lin_r24 : ∀ w ∈ wsL_law0_r24, w ∈ lw_tbl := fun w h => (goodIn_p wsL_law0_r24 [788, 795, 799, 803, 809] rfl (by decide +kernel) w h).1
theorem lin_r25 : ∀ w ∈ wsL_law0_r25, w ∈ lw_tbl := fun w h => (goodIn_p wsL_law0_r25 [814, 817, 825, 829, 832, 835] rfl (by decide +kernel) w h).1
theorem lin_r26 : ∀ w ∈ wsL_law0_r26, w ∈ lw_tbl := fun w h => (goodIn_p wsL_law0_r26 [839, 843, 847, 851, 854, 858] rfl (by decide +kernel) w h).1
theorem lin_r27 : ∀ w ∈ wsL_law0_r27, w ∈ lw_tbl := fun w h => (goodIn_p wsL_law0_r27 [862, 869, 873, 878, 886] rfl (by decide +kernel) w h).1
theorem lin_r28 : ∀ w ∈ wsL_law0_r28, w ∈ lw_tbl := fun w h => (goodIn_p wsL_law0_r28 [891, 898, 901, 906, 909] rfl (by decide +kernel) w h).1
theorem lin_r29 : ∀ w ∈ wsL_law0_r29, w ∈ lw_tbl := fun w h => (goodIn_p wsL_law0_r29 [912, 919, 922, 925, 928, 931, 934] rfl (by decide +kernel) w h).1
theorem lin_r30 : ∀ w ∈ wsL_law0_r30, w ∈ lw_tbl := fun w h => (goodIn_p wsL_law0_r30 [937, 941, 945, 949] rfl (by decide +kernel) w h).1
theorem lin_wsX50 : ∀ w ∈ wsX50, w ∈ lw_tbl := by decide +kernel
theorem lin_wsX20 : ∀ w ∈ wsX20, w ∈ lw_tbl := by decide +kernel
theorem lin_wsX40 : ∀ w ∈ wsX40, w ∈ lw_tbl := by decide +kernel
theorem lin_wsX30 : ∀ w ∈ wsX30, w ∈ lw_tbl := by decide +kernel
theorem lin_wsX00 : ∀ w ∈ wsX00, w ∈ lw_tbl := by decide +kernel
theorem wsL_law_in0 : ∀ w ∈ wsL_law0, w ∈ lw_tbl := by
  unfold wsL_law0
  exact List.forall_mem_append.mpr ⟨List.forall_mem_append.mpr ⟨List.forall_mem_append.mpr ⟨List.forall_mem_append.mpr ⟨List.forall_mem_append.mpr ⟨List.forall_mem_append.mpr ⟨List.forall_mem_append.mpr ⟨lin_r1, List.forall_mem_append.mpr ⟨lin_r2, List.forall_mem_append.mpr ⟨lin_r3, List.forall_mem_append.mpr ⟨lin_r4, List.forall_mem_append.mpr ⟨lin_r5, List.forall_mem_append.mpr ⟨lin_r6, List.forall_mem_append.mpr ⟨lin_r7, List.forall_mem_append.mpr ⟨lin_r8, List.forall_mem_append.mpr ⟨lin_r9, List.forall_mem_append.mpr ⟨lin_r10, List.forall_mem_append.mpr ⟨lin_r11, List.forall_mem_append.mpr ⟨lin_r12, List.forall_mem_append.mpr ⟨lin_r13, List.forall_mem_append.mpr ⟨lin_r14, List.forall_mem_append.mpr ⟨lin_r15, List.forall_mem_append.mpr ⟨lin_r16, List.forall_mem_append.mpr ⟨lin_r17, List.forall_mem_append.mpr ⟨lin_r18, List.forall_mem_append.mpr ⟨lin_r19, List.forall_mem_append.mpr ⟨lin_r20, List.forall_mem_append.mpr ⟨lin_r21, List.forall_mem_append.mpr ⟨lin_r22, List.forall_mem_append.mpr ⟨lin_r23, List.forall_mem_append.mpr ⟨lin_r24, List.forall_mem_append.mpr ⟨lin_r25, List.forall_mem_append.mpr ⟨lin_r26, List.forall_mem_append.mpr ⟨lin_r27, List.forall_mem_append.mpr ⟨lin_r28, List.forall_mem_append.mpr ⟨lin_r29, lin_r30⟩⟩⟩⟩⟩⟩⟩⟩⟩⟩⟩⟩⟩⟩⟩⟩⟩⟩⟩⟩⟩⟩⟩⟩⟩⟩⟩⟩⟩, lin_wsX50⟩, lin_wsX20⟩, lin_wsX40⟩, lin_wsX30⟩, lin_wsX00⟩, (fun _ h => nomatch h)⟩
theorem wsL_law_in : ∀ w ∈ wsL_law, w ∈ lw_tbl := fun w h => (List.mem_append.mp h).elim (fun h => (List.mem_append.mp h).elim (fun h => (List.mem_append.mp h).elim (fun h => wsL_law_in0 w h) (fun h => wsL_law_x0 w h)) (fun h => wsL_law_x1 w h)) (fun h => wsL_law_x2 w h)
theorem inX0 : ∀ w ∈ wsX00, w ∈ lw_tbl := fun w h => wsL_law_in w (inlX0 w h)
theorem inX2 : ∀ w ∈ wsX20, w ∈ lw_tbl := fun w h => wsL_law_in w (inlX2 w h)
theorem inX3 : ∀ w ∈ wsX30, w ∈ lw_tbl := fun w h => wsL_law_in w (inlX3 w h)
theorem inX4 : ∀ w ∈ wsX40, w ∈ lw_tbl := fun w h => wsL_law_in w (inlX4 w h)
theorem inX5 : ∀ w ∈ wsX50, w ∈ lw_tbl := fun w h => wsL_law_in w (inlX5 w h)
