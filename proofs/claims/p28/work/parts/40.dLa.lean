theorem dL_cell_0 : decode cL_cell 0 = .ok (.iload_n 1, 1) := by decide +kernel
theorem dL_cell_1 : decode cL_cell 1 = .ok (.aload_n 0, 1) := by decide +kernel
theorem dL_cell_2 : decode cL_cell 2 = .ok (.arraylength, 1) := by decide +kernel
theorem dL_cell_3 : decode cL_cell 3 = .ok (.if_icmp .ge 9, 3) := by decide +kernel
theorem dL_cell_6 : decode cL_cell 6 = .ok (.aload_n 0, 1) := by decide +kernel
theorem dL_cell_7 : decode cL_cell 7 = .ok (.iload_n 1, 1) := by decide +kernel
theorem dL_cell_8 : decode cL_cell 8 = .ok (.iaload, 1) := by decide +kernel
theorem dL_cell_9 : decode cL_cell 9 = .ok (.goto 18, 3) := by decide +kernel
theorem dL_cell_12 : decode cL_cell 12 = .ok (.sipush 7919, 3) := by decide +kernel
theorem dL_cell_15 : decode cL_cell 15 = .ok (.iload_n 1, 1) := by decide +kernel
theorem dL_cell_16 : decode cL_cell 16 = .ok (.sipush 2843, 3) := by decide +kernel
theorem dL_cell_19 : decode cL_cell 19 = .ok (.iadd, 1) := by decide +kernel
theorem dL_cell_20 : decode cL_cell 20 = .ok (.imul, 1) := by decide +kernel
theorem dL_cell_21 : decode cL_cell 21 = .ok (.iload_n 1, 1) := by decide +kernel
theorem dL_cell_22 : decode cL_cell 22 = .ok (.sipush 569, 3) := by decide +kernel
theorem dL_cell_25 : decode cL_cell 25 = .ok (.iadd, 1) := by decide +kernel
theorem dL_cell_26 : decode cL_cell 26 = .ok (.imul, 1) := by decide +kernel
theorem dL_cell_27 : decode cL_cell 27 = .ok (.ireturn, 1) := by decide +kernel
theorem dL_low_0 : decode cL_low 0 = .ok (.iload_n 0, 1) := by decide +kernel
theorem dL_low_1 : decode cL_low 1 = .ok (.ldc 7, 2) := by decide +kernel
theorem dL_low_3 : decode cL_low 3 = .ok (.iand, 1) := by decide +kernel
theorem dL_low_4 : decode cL_low 4 = .ok (.iload_n 1, 1) := by decide +kernel
theorem dL_low_5 : decode cL_low 5 = .ok (.irem, 1) := by decide +kernel
theorem dL_low_6 : decode cL_low 6 = .ok (.ireturn, 1) := by decide +kernel
set_option maxRecDepth 20000 in
theorem ggL_principle_X5_principle : GoodIn wsL_principle wsX5_principle := goodIn_ca (goodIn_r _ [7, 8, 9, 10, 11, 12, 13, 14, 15, 16, 17, 18, 19, 20, 21, 22, 23, 24, 25, 26, 27, 28, 29, 30, 31, 32, 33, 34, 35, 36, 37, 38, 39, 40, 41, 42, 43, 44, 45, 46, 47, 48, 49, 50, 51, 52, 53, 54, 55, 56, 57, 58, 59, 60, 61, 62, 63, 64, 65, 66, 67, 68, 69, 70, 71, 72, 73, 74, 75, 76, 77, 78, 79, 80, 81, 82, 83, 84, 85, 86, 87, 88] (by decide +kernel) (by decide +kernel)) (goodIn_sub (fun _ h => List.mem_cons_of_mem _ (List.mem_append_right _ h)) (by decide +kernel))
set_option maxRecDepth 20000 in
theorem gL_principle_X5_principle : GoodIn wsL_principle (wsV RL 23 RX5 yX5_principle wsX5_principle) := goodIn_app (goodIn_of _ (by decide +kernel)) ggL_principle_X5_principle
theorem dL_principle_0 : decode cL_principle 0 = .ok (.aload_n 0, 1) := by decide +kernel
theorem dL_principle_1 : decode cL_principle 1 = .ok (.invokevirtual 23, 3) := by decide +kernel
theorem dL_principle_4 : decode cL_principle 4 = .ok (.ireturn, 1) := by decide +kernel
theorem dL_principle_5 : decode cL_principle 5 = .ok (.astore_n 1, 1) := by decide +kernel
theorem dL_principle_6 : decode cL_principle 6 = .ok (.ldc 16, 2) := by decide +kernel
theorem dL_principle_8 : decode cL_principle 8 = .ok (.ireturn, 1) := by decide +kernel
set_option maxRecDepth 20000 in
theorem ggL_proves_X5_proves : GoodIn wsL_proves wsX5_proves := goodIn_ca (goodIn_r _ [7, 8, 9, 10, 11, 12, 13, 14, 15, 16, 17, 18, 19, 20, 21, 22, 23, 24, 25, 26, 27, 28, 29, 30, 31, 32, 33, 34, 35, 36, 37, 38, 39, 40, 41, 42, 43, 44, 45, 46, 47, 48] (by decide +kernel) (by decide +kernel)) (goodIn_sub (fun _ h => List.mem_cons_of_mem _ (List.mem_append_right _ h)) (by decide +kernel))
set_option maxRecDepth 20000 in
theorem gL_proves_X5_proves : GoodIn wsL_proves (wsV RL 37 RX5 yX5_proves wsX5_proves) := goodIn_app (goodIn_of _ (by decide +kernel)) ggL_proves_X5_proves
theorem dL_proves_0 : decode cL_proves 0 = .ok (.aload_n 0, 1) := by decide +kernel
theorem dL_proves_1 : decode cL_proves 1 = .ok (.iload_n 1, 1) := by decide +kernel
theorem dL_proves_2 : decode cL_proves 2 = .ok (.invokevirtual 37, 3) := by decide +kernel
theorem dL_proves_5 : decode cL_proves 5 = .ok (.ireturn, 1) := by decide +kernel
theorem dL_proves_6 : decode cL_proves 6 = .ok (.astore_n 2, 1) := by decide +kernel
theorem dL_proves_7 : decode cL_proves 7 = .ok (.ldc 16, 2) := by decide +kernel
theorem dL_proves_9 : decode cL_proves 9 = .ok (.ireturn, 1) := by decide +kernel
set_option maxRecDepth 20000 in
theorem ggL_ofPrinciple_X5_ofPrinciple : GoodIn wsL_ofPrinciple wsX5_ofPrinciple := goodIn_ca (goodIn_ca (goodIn_r _ [8, 9, 10, 11, 12, 13, 14, 15, 16, 17, 18, 19, 20, 7, 21, 22, 23, 24, 25, 26, 27, 28, 29, 30, 31, 32, 33, 34, 35, 36, 37, 38, 39, 40, 41, 42, 43, 44, 45, 46, 47, 48, 49, 50, 51, 52, 53, 54, 55] (by decide +kernel) (by decide +kernel)) (goodIn_sub (fun _ h => List.mem_cons_of_mem _ (List.mem_append_left _ (List.mem_append_right _ h))) (by decide +kernel))) (goodIn_sub (fun _ h => List.mem_cons_of_mem _ (List.mem_append_right _ h)) (by decide +kernel))
set_option maxRecDepth 20000 in
theorem gL_ofPrinciple_X5_ofPrinciple : GoodIn wsL_ofPrinciple (wsV RL 53 RX5 yX5_ofPrinciple wsX5_ofPrinciple) := goodIn_app (goodIn_of _ (by decide +kernel)) ggL_ofPrinciple_X5_ofPrinciple
theorem dL_ofPrinciple_0 : decode cL_ofPrinciple 0 = .ok (.aload_n 0, 1) := by decide +kernel
theorem dL_ofPrinciple_1 : decode cL_ofPrinciple 1 = .ok (.iload_n 1, 1) := by decide +kernel
theorem dL_ofPrinciple_2 : decode cL_ofPrinciple 2 = .ok (.iload_n 2, 1) := by decide +kernel
theorem dL_ofPrinciple_3 : decode cL_ofPrinciple 3 = .ok (.invokevirtual 53, 3) := by decide +kernel
theorem dL_ofPrinciple_6 : decode cL_ofPrinciple 6 = .ok (.ireturn, 1) := by decide +kernel
theorem dL_ofPrinciple_7 : decode cL_ofPrinciple 7 = .ok (.astore_n 3, 1) := by decide +kernel
theorem dL_ofPrinciple_8 : decode cL_ofPrinciple 8 = .ok (.ldc 16, 2) := by decide +kernel
theorem dL_ofPrinciple_10 : decode cL_ofPrinciple 10 = .ok (.ireturn, 1) := by decide +kernel
theorem dL_ofPrinciple_11 : decode cL_ofPrinciple 11 = .ok (.astore_n 3, 1) := by decide +kernel
theorem dL_ofPrinciple_12 : decode cL_ofPrinciple 12 = .ok (.ldc 16, 2) := by decide +kernel
theorem dL_ofPrinciple_14 : decode cL_ofPrinciple 14 = .ok (.ireturn, 1) := by decide +kernel
set_option maxRecDepth 20000 in
theorem ggL_reduces_X5_reduces : GoodIn wsL_reduces wsX5_reduces := goodIn_ca (goodIn_r _ [7, 8, 9, 10, 11, 12, 13, 14, 15, 16, 17, 18, 19, 20, 21, 6, 22, 23, 24, 25, 26, 27, 28, 29, 30, 31, 32, 33, 34, 35, 36, 37, 38, 39, 40, 41, 42, 43, 44, 45, 46, 47, 48, 49, 50, 51, 52, 53, 54, 55, 56, 57, 58, 59, 60, 61, 62, 63, 64, 65, 66, 67, 68, 69, 70, 71, 72, 73, 74, 75, 76, 77, 78] (by decide +kernel) (by decide +kernel)) (goodIn_sub (fun _ h => List.mem_cons_of_mem _ (List.mem_append_right _ h)) (by decide +kernel))
set_option maxRecDepth 20000 in
theorem gL_reduces_X5_reduces : GoodIn wsL_reduces (wsV RL 62 RX5 yX5_reduces wsX5_reduces) := goodIn_app (goodIn_of _ (by decide +kernel)) ggL_reduces_X5_reduces
theorem dL_reduces_0 : decode cL_reduces 0 = .ok (.aload_n 0, 1) := by decide +kernel
theorem dL_reduces_1 : decode cL_reduces 1 = .ok (.iload_n 1, 1) := by decide +kernel
theorem dL_reduces_2 : decode cL_reduces 2 = .ok (.iload_n 2, 1) := by decide +kernel
theorem dL_reduces_3 : decode cL_reduces 3 = .ok (.invokevirtual 62, 3) := by decide +kernel
theorem dL_reduces_6 : decode cL_reduces 6 = .ok (.ireturn, 1) := by decide +kernel
theorem dL_reduces_7 : decode cL_reduces 7 = .ok (.astore_n 3, 1) := by decide +kernel
theorem dL_reduces_8 : decode cL_reduces 8 = .ok (.ldc 16, 2) := by decide +kernel
theorem dL_reduces_10 : decode cL_reduces 10 = .ok (.ireturn, 1) := by decide +kernel
set_option maxRecDepth 20000 in
theorem ggL_ofProblem_X5_ofProblem : GoodIn wsL_ofProblem wsX5_ofProblem := goodIn_ca (goodIn_ca (goodIn_r _ [8, 9, 10, 11, 12, 13, 14, 15, 16, 17, 18, 19, 20, 7, 21, 22, 23, 24, 25, 26, 27, 28, 29, 30, 31, 32, 33, 34, 35, 36, 37, 38, 39] (by decide +kernel) (by decide +kernel)) (goodIn_sub (fun _ h => List.mem_cons_of_mem _ (List.mem_append_left _ (List.mem_append_right _ h))) (by decide +kernel))) (goodIn_sub (fun _ h => List.mem_cons_of_mem _ (List.mem_append_right _ h)) (by decide +kernel))
set_option maxRecDepth 20000 in
theorem gL_ofProblem_X5_ofProblem : GoodIn wsL_ofProblem (wsV RL 71 RX5 yX5_ofProblem wsX5_ofProblem) := goodIn_app (goodIn_of _ (by decide +kernel)) ggL_ofProblem_X5_ofProblem
theorem dL_ofProblem_0 : decode cL_ofProblem 0 = .ok (.aload_n 0, 1) := by decide +kernel
theorem dL_ofProblem_1 : decode cL_ofProblem 1 = .ok (.iload_n 1, 1) := by decide +kernel
theorem dL_ofProblem_2 : decode cL_ofProblem 2 = .ok (.iload_n 2, 1) := by decide +kernel
theorem dL_ofProblem_3 : decode cL_ofProblem 3 = .ok (.invokevirtual 71, 3) := by decide +kernel
theorem dL_ofProblem_6 : decode cL_ofProblem 6 = .ok (.ireturn, 1) := by decide +kernel
theorem dL_ofProblem_7 : decode cL_ofProblem 7 = .ok (.astore_n 3, 1) := by decide +kernel
theorem dL_ofProblem_8 : decode cL_ofProblem 8 = .ok (.ldc 16, 2) := by decide +kernel
theorem dL_ofProblem_10 : decode cL_ofProblem 10 = .ok (.ireturn, 1) := by decide +kernel
theorem dL_ofProblem_11 : decode cL_ofProblem 11 = .ok (.astore_n 3, 1) := by decide +kernel
theorem dL_ofProblem_12 : decode cL_ofProblem 12 = .ok (.ldc 16, 2) := by decide +kernel
theorem dL_ofProblem_14 : decode cL_ofProblem 14 = .ok (.ireturn, 1) := by decide +kernel
set_option maxRecDepth 20000 in
theorem ggL_act_L_low : GoodIn wsL_act wsL_low := goodIn_r _ [4, 5] (by decide +kernel) (by decide +kernel)
set_option maxRecDepth 20000 in
theorem gL_act_L_low : GoodIn wsL_act (va_wsS RL 81 yL_low wsL_low) := goodIn_app (goodIn_of _ (by decide +kernel)) ggL_act_L_low
set_option maxRecDepth 20000 in
theorem ggL_act_L_principle : GoodIn wsL_act wsL_principle := goodIn_ca (goodIn_r _ [309, 16, 17, 310, 311, 312, 21, 313, 25, 26, 27, 314, 247, 248, 249, 30, 250, 130, 131, 267, 268, 269, 149, 270, 194, 315, 316, 317, 318, 319, 320, 251, 252, 253, 254, 193, 259, 260, 261, 262, 192, 321, 322, 323, 324, 325, 326, 224, 225, 226, 227, 125, 142, 140, 228, 229, 230, 231, 151, 153, 656, 657, 658, 659, 660, 661, 662, 663, 664, 665, 666, 667, 668, 669, 670, 671, 672, 673, 674, 675, 676, 677, 678, 679, 680, 681, 682, 683, 684] (by decide +kernel) (by decide +kernel)) (goodIn_sub (fun _ h => List.mem_cons_of_mem _ (List.mem_append_left _ (List.mem_append_right _ h))) (by decide +kernel))
set_option maxRecDepth 20000 in
theorem gL_act_L_principle : GoodIn wsL_act (va_wsS RL 119 yL_principle wsL_principle) := goodIn_app (goodIn_of _ (by decide +kernel)) ggL_act_L_principle
theorem dL_act_0 : decode cL_act 0 = .ok (.iload_n 1, 1) := by decide +kernel
theorem dL_act_1 : decode cL_act 1 = .ok (.bipush 26, 2) := by decide +kernel
theorem dL_act_3 : decode cL_act 3 = .ok (.ishr, 1) := by decide +kernel
theorem dL_act_4 : decode cL_act 4 = .ok (.bipush 14, 2) := by decide +kernel
theorem dL_act_6 : decode cL_act 6 = .ok (.invokestatic 81, 3) := by decide +kernel
theorem dL_act_9 : decode cL_act 9 = .ok (.ifCond .ne 7, 3) := by decide +kernel
theorem dL_act_12 : decode cL_act 12 = .ok (.iconst 1, 1) := by decide +kernel
theorem dL_act_13 : decode cL_act 13 = .ok (.goto 4, 3) := by decide +kernel
theorem dL_act_16 : decode cL_act 16 = .ok (.iconst 0, 1) := by decide +kernel
theorem dL_act_17 : decode cL_act 17 = .ok (.istore_n 2, 1) := by decide +kernel
theorem dL_act_18 : decode cL_act 18 = .ok (.iload_n 2, 1) := by decide +kernel
theorem dL_act_19 : decode cL_act 19 = .ok (.ifCond .eq 16, 3) := by decide +kernel
theorem dL_act_22 : decode cL_act 22 = .ok (.iload_n 1, 1) := by decide +kernel
theorem dL_act_23 : decode cL_act 23 = .ok (.iconst 4, 1) := by decide +kernel
theorem dL_act_24 : decode cL_act 24 = .ok (.ishr, 1) := by decide +kernel
theorem dL_act_25 : decode cL_act 25 = .ok (.bipush 14, 2) := by decide +kernel
theorem dL_act_27 : decode cL_act 27 = .ok (.invokestatic 81, 3) := by decide +kernel
theorem dL_act_30 : decode cL_act 30 = .ok (.iconst 2, 1) := by decide +kernel
theorem dL_act_31 : decode cL_act 31 = .ok (.isub, 1) := by decide +kernel
